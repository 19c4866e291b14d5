theorem dX0_init_0 : decode cX0_init 0 = .ok (.aload_n 0, 1) := by decide +kernel
theorem dX0_init_1 : decode cX0_init 1 = .ok (.invokespecial 3, 3) := by decide +kernel
theorem dX0_init_4 : decode cX0_init 4 = .ok (.aload_n 0, 1) := by decide +kernel
theorem dX0_init_5 : decode cX0_init 5 = .ok (.iconst 4, 1) := by decide +kernel
theorem dX0_init_6 : decode cX0_init 6 = .ok (.anewarray 9, 3) := by decide +kernel
theorem dX0_init_9 : decode cX0_init 9 = .ok (.putfield 11, 3) := by decide +kernel
theorem dX0_init_12 : decode cX0_init 12 = .ok (.aload_n 0, 1) := by decide +kernel
theorem dX0_init_13 : decode cX0_init 13 = .ok (.iconst 0, 1) := by decide +kernel
theorem dX0_init_14 : decode cX0_init 14 = .ok (.putfield 17, 3) := by decide +kernel
theorem dX0_init_17 : decode cX0_init 17 = .ok (.aload_n 0, 1) := by decide +kernel
theorem dX0_init_18 : decode cX0_init 18 = .ok (.new 21, 3) := by decide +kernel
theorem dX0_init_21 : decode cX0_init 21 = .ok (.dup, 1) := by decide +kernel
theorem dX0_init_22 : decode cX0_init 22 = .ok (.invokespecial 23, 3) := by decide +kernel
theorem dX0_init_25 : decode cX0_init 25 = .ok (.putfield 24, 3) := by decide +kernel
theorem dX0_init_28 : decode cX0_init 28 = .ok (.aload_n 0, 1) := by decide +kernel
theorem dX0_init_29 : decode cX0_init 29 = .ok (.iconst 0, 1) := by decide +kernel
theorem dX0_init_30 : decode cX0_init 30 = .ok (.putfield 28, 3) := by decide +kernel
theorem dX0_init_33 : decode cX0_init 33 = .ok (.aload_n 0, 1) := by decide +kernel
theorem dX0_init_34 : decode cX0_init 34 = .ok (.iconst 0, 1) := by decide +kernel
theorem dX0_init_35 : decode cX0_init 35 = .ok (.putfield 31, 3) := by decide +kernel
theorem dX0_init_38 : decode cX0_init 38 = .ok (.aload_n 0, 1) := by decide +kernel
theorem dX0_init_39 : decode cX0_init 39 = .ok (.iconst 1, 1) := by decide +kernel
theorem dX0_init_40 : decode cX0_init 40 = .ok (.putfield 34, 3) := by decide +kernel
theorem dX0_init_43 : decode cX0_init 43 = .ok (.aload_n 0, 1) := by decide +kernel
theorem dX0_init_44 : decode cX0_init 44 = .ok (.bipush 10, 2) := by decide +kernel
theorem dX0_init_46 : decode cX0_init 46 = .ok (.newarray .int, 2) := by decide +kernel
theorem dX0_init_48 : decode cX0_init 48 = .ok (.putfield 37, 3) := by decide +kernel
theorem dX0_init_51 : decode cX0_init 51 = .ok (.aload_n 0, 1) := by decide +kernel
theorem dX0_init_52 : decode cX0_init 52 = .ok (.bipush 100, 2) := by decide +kernel
theorem dX0_init_54 : decode cX0_init 54 = .ok (.newarray .int, 2) := by decide +kernel
theorem dX0_init_56 : decode cX0_init 56 = .ok (.putfield 41, 3) := by decide +kernel
theorem dX0_init_59 : decode cX0_init 59 = .ok (.aload_n 0, 1) := by decide +kernel
theorem dX0_init_60 : decode cX0_init 60 = .ok (.iconst 0, 1) := by decide +kernel
theorem dX0_init_61 : decode cX0_init 61 = .ok (.putfield 44, 3) := by decide +kernel
theorem dX0_init_64 : decode cX0_init 64 = .ok (.iconst 0, 1) := by decide +kernel
theorem dX0_init_65 : decode cX0_init 65 = .ok (.istore_n 1, 1) := by decide +kernel
theorem dX0_init_66 : decode cX0_init 66 = .ok (.iload_n 1, 1) := by decide +kernel
theorem dX0_init_67 : decode cX0_init 67 = .ok (.iconst 4, 1) := by decide +kernel
theorem dX0_init_68 : decode cX0_init 68 = .ok (.if_icmp .ge 22, 3) := by decide +kernel
theorem dX0_init_71 : decode cX0_init 71 = .ok (.aload_n 0, 1) := by decide +kernel
theorem dX0_init_72 : decode cX0_init 72 = .ok (.getfield 11, 3) := by decide +kernel
theorem dX0_init_75 : decode cX0_init 75 = .ok (.iload_n 1, 1) := by decide +kernel
theorem dX0_init_76 : decode cX0_init 76 = .ok (.new 9, 3) := by decide +kernel
theorem dX0_init_79 : decode cX0_init 79 = .ok (.dup, 1) := by decide +kernel
theorem dX0_init_80 : decode cX0_init 80 = .ok (.invokespecial 47, 3) := by decide +kernel
theorem dX0_init_83 : decode cX0_init 83 = .ok (.aastore, 1) := by decide +kernel
theorem dX0_init_84 : decode cX0_init 84 = .ok (.iinc 1 1, 3) := by decide +kernel
theorem dX0_init_87 : decode cX0_init 87 = .ok (.goto (-21), 3) := by decide +kernel
theorem dX0_init_90 : decode cX0_init 90 = .ok (.return_, 1) := by decide +kernel
theorem dX0_clear_0 : decode cX0_clear 0 = .ok (.aload_n 0, 1) := by decide +kernel
theorem dX0_clear_1 : decode cX0_clear 1 = .ok (.iconst 0, 1) := by decide +kernel
theorem dX0_clear_2 : decode cX0_clear 2 = .ok (.putfield 17, 3) := by decide +kernel
theorem dX0_clear_5 : decode cX0_clear 5 = .ok (.aload_n 0, 1) := by decide +kernel
theorem dX0_clear_6 : decode cX0_clear 6 = .ok (.getfield 24, 3) := by decide +kernel
theorem dX0_clear_9 : decode cX0_clear 9 = .ok (.invokevirtual 48, 3) := by decide +kernel
theorem dX0_clear_12 : decode cX0_clear 12 = .ok (.aload_n 0, 1) := by decide +kernel
theorem dX0_clear_13 : decode cX0_clear 13 = .ok (.iconst 0, 1) := by decide +kernel
theorem dX0_clear_14 : decode cX0_clear 14 = .ok (.putfield 28, 3) := by decide +kernel
theorem dX0_clear_17 : decode cX0_clear 17 = .ok (.aload_n 0, 1) := by decide +kernel
theorem dX0_clear_18 : decode cX0_clear 18 = .ok (.iconst 0, 1) := by decide +kernel
theorem dX0_clear_19 : decode cX0_clear 19 = .ok (.putfield 31, 3) := by decide +kernel
theorem dX0_clear_22 : decode cX0_clear 22 = .ok (.aload_n 0, 1) := by decide +kernel
theorem dX0_clear_23 : decode cX0_clear 23 = .ok (.iconst 1, 1) := by decide +kernel
theorem dX0_clear_24 : decode cX0_clear 24 = .ok (.putfield 34, 3) := by decide +kernel
theorem dX0_clear_27 : decode cX0_clear 27 = .ok (.aload_n 0, 1) := by decide +kernel
theorem dX0_clear_28 : decode cX0_clear 28 = .ok (.iconst 0, 1) := by decide +kernel
theorem dX0_clear_29 : decode cX0_clear 29 = .ok (.putfield 44, 3) := by decide +kernel
theorem dX0_clear_32 : decode cX0_clear 32 = .ok (.aload_n 0, 1) := by decide +kernel
theorem dX0_clear_33 : decode cX0_clear 33 = .ok (.getfield 37, 3) := by decide +kernel
theorem dX0_clear_36 : decode cX0_clear 36 = .ok (.iconst 0, 1) := by decide +kernel
theorem dX0_clear_37 : decode cX0_clear 37 = .ok (.invokestatic 51, 3) := by decide +kernel
theorem dX0_clear_40 : decode cX0_clear 40 = .ok (.return_, 1) := by decide +kernel
theorem dX0_beginPlain_0 : decode cX0_beginPlain 0 = .ok (.aload_n 0, 1) := by decide +kernel
theorem dX0_beginPlain_1 : decode cX0_beginPlain 1 = .ok (.invokevirtual 57, 3) := by decide +kernel
theorem dX0_beginPlain_4 : decode cX0_beginPlain 4 = .ok (.aload_n 0, 1) := by decide +kernel
theorem dX0_beginPlain_5 : decode cX0_beginPlain 5 = .ok (.ldc 58, 2) := by decide +kernel
theorem dX0_beginPlain_7 : decode cX0_beginPlain 7 = .ok (.invokestatic 60, 3) := by decide +kernel
theorem dX0_beginPlain_10 : decode cX0_beginPlain 10 = .ok (.invokevirtual 66, 3) := by decide +kernel
theorem dX0_beginPlain_13 : decode cX0_beginPlain 13 = .ok (.pop, 1) := by decide +kernel
theorem dX0_beginPlain_14 : decode cX0_beginPlain 14 = .ok (.aload_n 0, 1) := by decide +kernel
theorem dX0_beginPlain_15 : decode cX0_beginPlain 15 = .ok (.getfield 24, 3) := by decide +kernel
theorem dX0_beginPlain_18 : decode cX0_beginPlain 18 = .ok (.iconst 0, 1) := by decide +kernel
theorem dX0_beginPlain_19 : decode cX0_beginPlain 19 = .ok (.iconst 5, 1) := by decide +kernel
theorem dX0_beginPlain_20 : decode cX0_beginPlain 20 = .ok (.bipush 8, 2) := by decide +kernel
theorem dX0_beginPlain_22 : decode cX0_beginPlain 22 = .ok (.invokevirtual 70, 3) := by decide +kernel
theorem dX0_beginPlain_25 : decode cX0_beginPlain 25 = .ok (.return_, 1) := by decide +kernel
theorem dX0_copyFrom_0 : decode cX0_copyFrom 0 = .ok (.iconst 0, 1) := by decide +kernel
theorem dX0_copyFrom_1 : decode cX0_copyFrom 1 = .ok (.istore_n 2, 1) := by decide +kernel
theorem dX0_copyFrom_2 : decode cX0_copyFrom 2 = .ok (.iload_n 2, 1) := by decide +kernel
theorem dX0_copyFrom_3 : decode cX0_copyFrom 3 = .ok (.iconst 4, 1) := by decide +kernel
theorem dX0_copyFrom_4 : decode cX0_copyFrom 4 = .ok (.if_icmp .ge 24, 3) := by decide +kernel
theorem dX0_copyFrom_7 : decode cX0_copyFrom 7 = .ok (.aload_n 0, 1) := by decide +kernel
theorem dX0_copyFrom_8 : decode cX0_copyFrom 8 = .ok (.getfield 11, 3) := by decide +kernel
theorem dX0_copyFrom_11 : decode cX0_copyFrom 11 = .ok (.iload_n 2, 1) := by decide +kernel
theorem dX0_copyFrom_12 : decode cX0_copyFrom 12 = .ok (.aaload, 1) := by decide +kernel
theorem dX0_copyFrom_13 : decode cX0_copyFrom 13 = .ok (.aload_n 1, 1) := by decide +kernel
theorem dX0_copyFrom_14 : decode cX0_copyFrom 14 = .ok (.getfield 11, 3) := by decide +kernel
theorem dX0_copyFrom_17 : decode cX0_copyFrom 17 = .ok (.iload_n 2, 1) := by decide +kernel
theorem dX0_copyFrom_18 : decode cX0_copyFrom 18 = .ok (.aaload, 1) := by decide +kernel
theorem dX0_copyFrom_19 : decode cX0_copyFrom 19 = .ok (.invokevirtual 74, 3) := by decide +kernel
theorem dX0_copyFrom_22 : decode cX0_copyFrom 22 = .ok (.iinc 2 1, 3) := by decide +kernel
theorem dX0_copyFrom_25 : decode cX0_copyFrom 25 = .ok (.goto (-23), 3) := by decide +kernel
theorem dX0_copyFrom_28 : decode cX0_copyFrom 28 = .ok (.aload_n 0, 1) := by decide +kernel
theorem dX0_copyFrom_29 : decode cX0_copyFrom 29 = .ok (.aload_n 1, 1) := by decide +kernel
theorem dX0_copyFrom_30 : decode cX0_copyFrom 30 = .ok (.getfield 17, 3) := by decide +kernel
theorem dX0_copyFrom_33 : decode cX0_copyFrom 33 = .ok (.putfield 17, 3) := by decide +kernel
theorem dX0_copyFrom_36 : decode cX0_copyFrom 36 = .ok (.aload_n 0, 1) := by decide +kernel
theorem dX0_copyFrom_37 : decode cX0_copyFrom 37 = .ok (.getfield 24, 3) := by decide +kernel
theorem dX0_copyFrom_40 : decode cX0_copyFrom 40 = .ok (.aload_n 1, 1) := by decide +kernel
theorem dX0_copyFrom_41 : decode cX0_copyFrom 41 = .ok (.getfield 24, 3) := by decide +kernel
theorem dX0_copyFrom_44 : decode cX0_copyFrom 44 = .ok (.invokevirtual 78, 3) := by decide +kernel
theorem dX0_copyFrom_47 : decode cX0_copyFrom 47 = .ok (.aload_n 0, 1) := by decide +kernel
theorem dX0_copyFrom_48 : decode cX0_copyFrom 48 = .ok (.aload_n 1, 1) := by decide +kernel
theorem dX0_copyFrom_49 : decode cX0_copyFrom 49 = .ok (.getfield 28, 3) := by decide +kernel
theorem dX0_copyFrom_52 : decode cX0_copyFrom 52 = .ok (.putfield 28, 3) := by decide +kernel
theorem dX0_copyFrom_55 : decode cX0_copyFrom 55 = .ok (.aload_n 0, 1) := by decide +kernel
theorem dX0_copyFrom_56 : decode cX0_copyFrom 56 = .ok (.aload_n 1, 1) := by decide +kernel
theorem dX0_copyFrom_57 : decode cX0_copyFrom 57 = .ok (.getfield 31, 3) := by decide +kernel
theorem dX0_copyFrom_60 : decode cX0_copyFrom 60 = .ok (.putfield 31, 3) := by decide +kernel
theorem dX0_copyFrom_63 : decode cX0_copyFrom 63 = .ok (.aload_n 0, 1) := by decide +kernel
theorem dX0_copyFrom_64 : decode cX0_copyFrom 64 = .ok (.aload_n 1, 1) := by decide +kernel
theorem dX0_copyFrom_65 : decode cX0_copyFrom 65 = .ok (.getfield 34, 3) := by decide +kernel
theorem dX0_copyFrom_68 : decode cX0_copyFrom 68 = .ok (.putfield 34, 3) := by decide +kernel
theorem dX0_copyFrom_71 : decode cX0_copyFrom 71 = .ok (.aload_n 1, 1) := by decide +kernel
theorem dX0_copyFrom_72 : decode cX0_copyFrom 72 = .ok (.getfield 37, 3) := by decide +kernel
theorem dX0_copyFrom_75 : decode cX0_copyFrom 75 = .ok (.iconst 0, 1) := by decide +kernel
theorem dX0_copyFrom_76 : decode cX0_copyFrom 76 = .ok (.aload_n 0, 1) := by decide +kernel
theorem dX0_copyFrom_77 : decode cX0_copyFrom 77 = .ok (.getfield 37, 3) := by decide +kernel
theorem dX0_copyFrom_80 : decode cX0_copyFrom 80 = .ok (.iconst 0, 1) := by decide +kernel
theorem dX0_copyFrom_81 : decode cX0_copyFrom 81 = .ok (.aload_n 0, 1) := by decide +kernel
theorem dX0_copyFrom_82 : decode cX0_copyFrom 82 = .ok (.getfield 37, 3) := by decide +kernel
theorem dX0_copyFrom_85 : decode cX0_copyFrom 85 = .ok (.arraylength, 1) := by decide +kernel
theorem dX0_copyFrom_86 : decode cX0_copyFrom 86 = .ok (.invokestatic 81, 3) := by decide +kernel
theorem dX0_copyFrom_89 : decode cX0_copyFrom 89 = .ok (.aload_n 1, 1) := by decide +kernel
theorem dX0_copyFrom_90 : decode cX0_copyFrom 90 = .ok (.getfield 41, 3) := by decide +kernel
theorem dX0_copyFrom_93 : decode cX0_copyFrom 93 = .ok (.iconst 0, 1) := by decide +kernel
theorem dX0_copyFrom_94 : decode cX0_copyFrom 94 = .ok (.aload_n 0, 1) := by decide +kernel
theorem dX0_copyFrom_95 : decode cX0_copyFrom 95 = .ok (.getfield 41, 3) := by decide +kernel
theorem dX0_copyFrom_98 : decode cX0_copyFrom 98 = .ok (.iconst 0, 1) := by decide +kernel
theorem dX0_copyFrom_99 : decode cX0_copyFrom 99 = .ok (.aload_n 0, 1) := by decide +kernel
theorem dX0_copyFrom_100 : decode cX0_copyFrom 100 = .ok (.getfield 41, 3) := by decide +kernel
theorem dX0_copyFrom_103 : decode cX0_copyFrom 103 = .ok (.arraylength, 1) := by decide +kernel
theorem dX0_copyFrom_104 : decode cX0_copyFrom 104 = .ok (.invokestatic 81, 3) := by decide +kernel
theorem dX0_copyFrom_107 : decode cX0_copyFrom 107 = .ok (.aload_n 0, 1) := by decide +kernel
theorem dX0_copyFrom_108 : decode cX0_copyFrom 108 = .ok (.aload_n 1, 1) := by decide +kernel
theorem dX0_copyFrom_109 : decode cX0_copyFrom 109 = .ok (.getfield 44, 3) := by decide +kernel
theorem dX0_copyFrom_112 : decode cX0_copyFrom 112 = .ok (.putfield 44, 3) := by decide +kernel
theorem dX0_copyFrom_115 : decode cX0_copyFrom 115 = .ok (.return_, 1) := by decide +kernel
theorem dX0_ruleAt_0 : decode cX0_ruleAt 0 = .ok (.iload_n 1, 1) := by decide +kernel
theorem dX0_ruleAt_1 : decode cX0_ruleAt 1 = .ok (.ifCond .lt 17, 3) := by decide +kernel
theorem dX0_ruleAt_4 : decode cX0_ruleAt 4 = .ok (.iload_n 1, 1) := by decide +kernel
theorem dX0_ruleAt_5 : decode cX0_ruleAt 5 = .ok (.iconst 4, 1) := by decide +kernel
theorem dX0_ruleAt_6 : decode cX0_ruleAt 6 = .ok (.if_icmp .ge 12, 3) := by decide +kernel
theorem dX0_ruleAt_9 : decode cX0_ruleAt 9 = .ok (.aload_n 0, 1) := by decide +kernel
theorem dX0_ruleAt_10 : decode cX0_ruleAt 10 = .ok (.getfield 11, 3) := by decide +kernel
theorem dX0_ruleAt_13 : decode cX0_ruleAt 13 = .ok (.iload_n 1, 1) := by decide +kernel
theorem dX0_ruleAt_14 : decode cX0_ruleAt 14 = .ok (.aaload, 1) := by decide +kernel
theorem dX0_ruleAt_15 : decode cX0_ruleAt 15 = .ok (.goto 9, 3) := by decide +kernel
theorem dX0_ruleAt_18 : decode cX0_ruleAt 18 = .ok (.aload_n 0, 1) := by decide +kernel
theorem dX0_ruleAt_19 : decode cX0_ruleAt 19 = .ok (.getfield 11, 3) := by decide +kernel
theorem dX0_ruleAt_22 : decode cX0_ruleAt 22 = .ok (.iconst 0, 1) := by decide +kernel
theorem dX0_ruleAt_23 : decode cX0_ruleAt 23 = .ok (.aaload, 1) := by decide +kernel
theorem dX0_ruleAt_24 : decode cX0_ruleAt 24 = .ok (.areturn, 1) := by decide +kernel
theorem dX0_reasonAgainst_0 : decode cX0_reasonAgainst 0 = .ok (.iload_n 2, 1) := by decide +kernel
theorem dX0_reasonAgainst_1 : decode cX0_reasonAgainst 1 = .ok (.ifCond .lt 15, 3) := by decide +kernel
theorem dX0_reasonAgainst_4 : decode cX0_reasonAgainst 4 = .ok (.iload_n 3, 1) := by decide +kernel
theorem dX0_reasonAgainst_5 : decode cX0_reasonAgainst 5 = .ok (.ifCond .lt 11, 3) := by decide +kernel
theorem dX0_reasonAgainst_8 : decode cX0_reasonAgainst 8 = .ok (.iload_n 2, 1) := by decide +kernel
theorem dX0_reasonAgainst_9 : decode cX0_reasonAgainst 9 = .ok (.ifCond .ne 9, 3) := by decide +kernel
theorem dX0_reasonAgainst_12 : decode cX0_reasonAgainst 12 = .ok (.iload_n 3, 1) := by decide +kernel
theorem dX0_reasonAgainst_13 : decode cX0_reasonAgainst 13 = .ok (.ifCond .ne 5, 3) := by decide +kernel
theorem dX0_reasonAgainst_16 : decode cX0_reasonAgainst 16 = .ok (.iconst 1, 1) := by decide +kernel
theorem dX0_reasonAgainst_17 : decode cX0_reasonAgainst 17 = .ok (.ireturn, 1) := by decide +kernel
theorem dX0_reasonAgainst_18 : decode cX0_reasonAgainst 18 = .ok (.iload_n 2, 1) := by decide +kernel
theorem dX0_reasonAgainst_19 : decode cX0_reasonAgainst 19 = .ok (.aload_n 0, 1) := by decide +kernel
theorem dX0_reasonAgainst_20 : decode cX0_reasonAgainst 20 = .ok (.getfield 24, 3) := by decide +kernel
theorem dX0_reasonAgainst_23 : decode cX0_reasonAgainst 23 = .ok (.iload_n 1, 1) := by decide +kernel
theorem dX0_reasonAgainst_24 : decode cX0_reasonAgainst 24 = .ok (.invokevirtual 87, 3) := by decide +kernel
theorem dX0_reasonAgainst_27 : decode cX0_reasonAgainst 27 = .ok (.if_icmp .gt 15, 3) := by decide +kernel
theorem dX0_reasonAgainst_30 : decode cX0_reasonAgainst 30 = .ok (.iload_n 3, 1) := by decide +kernel
theorem dX0_reasonAgainst_31 : decode cX0_reasonAgainst 31 = .ok (.aload_n 0, 1) := by decide +kernel
theorem dX0_reasonAgainst_32 : decode cX0_reasonAgainst 32 = .ok (.getfield 24, 3) := by decide +kernel
theorem dX0_reasonAgainst_35 : decode cX0_reasonAgainst 35 = .ok (.iload_n 1, 1) := by decide +kernel
theorem dX0_reasonAgainst_36 : decode cX0_reasonAgainst 36 = .ok (.invokevirtual 91, 3) := by decide +kernel
theorem dX0_reasonAgainst_39 : decode cX0_reasonAgainst 39 = .ok (.if_icmp .le 5, 3) := by decide +kernel
theorem dX0_reasonAgainst_42 : decode cX0_reasonAgainst 42 = .ok (.iconst 2, 1) := by decide +kernel
theorem dX0_reasonAgainst_43 : decode cX0_reasonAgainst 43 = .ok (.ireturn, 1) := by decide +kernel
theorem dX0_reasonAgainst_44 : decode cX0_reasonAgainst 44 = .ok (.aload_n 0, 1) := by decide +kernel
theorem dX0_reasonAgainst_45 : decode cX0_reasonAgainst 45 = .ok (.getfield 24, 3) := by decide +kernel
theorem dX0_reasonAgainst_48 : decode cX0_reasonAgainst 48 = .ok (.iload_n 1, 1) := by decide +kernel
theorem dX0_reasonAgainst_49 : decode cX0_reasonAgainst 49 = .ok (.invokevirtual 94, 3) := by decide +kernel
theorem dX0_reasonAgainst_52 : decode cX0_reasonAgainst 52 = .ok (.istore 4, 2) := by decide +kernel
theorem dX0_reasonAgainst_54 : decode cX0_reasonAgainst 54 = .ok (.aload_n 0, 1) := by decide +kernel
theorem dX0_reasonAgainst_55 : decode cX0_reasonAgainst 55 = .ok (.getfield 24, 3) := by decide +kernel
theorem dX0_reasonAgainst_58 : decode cX0_reasonAgainst 58 = .ok (.iload_n 1, 1) := by decide +kernel
theorem dX0_reasonAgainst_59 : decode cX0_reasonAgainst 59 = .ok (.invokevirtual 97, 3) := by decide +kernel
theorem dX0_reasonAgainst_62 : decode cX0_reasonAgainst 62 = .ok (.ifCond .eq 15, 3) := by decide +kernel
theorem dX0_reasonAgainst_65 : decode cX0_reasonAgainst 65 = .ok (.aload_n 0, 1) := by decide +kernel
theorem dX0_reasonAgainst_66 : decode cX0_reasonAgainst 66 = .ok (.iload 4, 2) := by decide +kernel
theorem dX0_reasonAgainst_68 : decode cX0_reasonAgainst 68 = .ok (.invokevirtual 101, 3) := by decide +kernel
theorem dX0_reasonAgainst_71 : decode cX0_reasonAgainst 71 = .ok (.iload_n 2, 1) := by decide +kernel
theorem dX0_reasonAgainst_72 : decode cX0_reasonAgainst 72 = .ok (.iload_n 3, 1) := by decide +kernel
theorem dX0_reasonAgainst_73 : decode cX0_reasonAgainst 73 = .ok (.invokevirtual 105, 3) := by decide +kernel
theorem dX0_reasonAgainst_76 : decode cX0_reasonAgainst 76 = .ok (.ireturn, 1) := by decide +kernel
theorem dX0_reasonAgainst_77 : decode cX0_reasonAgainst 77 = .ok (.iload_n 2, 1) := by decide +kernel
theorem dX0_reasonAgainst_78 : decode cX0_reasonAgainst 78 = .ok (.iload 4, 2) := by decide +kernel
theorem dX0_reasonAgainst_80 : decode cX0_reasonAgainst 80 = .ok (.if_icmp .le 7, 3) := by decide +kernel
theorem dX0_reasonAgainst_83 : decode cX0_reasonAgainst 83 = .ok (.iconst 3, 1) := by decide +kernel
theorem dX0_reasonAgainst_84 : decode cX0_reasonAgainst 84 = .ok (.goto 4, 3) := by decide +kernel
theorem dX0_reasonAgainst_87 : decode cX0_reasonAgainst 87 = .ok (.iconst 0, 1) := by decide +kernel
theorem dX0_reasonAgainst_88 : decode cX0_reasonAgainst 88 = .ok (.ireturn, 1) := by decide +kernel
theorem dX0_addRule_0 : decode cX0_addRule 0 = .ok (.aload_n 0, 1) := by decide +kernel
theorem dX0_addRule_1 : decode cX0_addRule 1 = .ok (.aload_n 0, 1) := by decide +kernel
theorem dX0_addRule_2 : decode cX0_addRule 2 = .ok (.getfield 17, 3) := by decide +kernel
theorem dX0_addRule_5 : decode cX0_addRule 5 = .ok (.invokevirtual 101, 3) := by decide +kernel
theorem dX0_addRule_8 : decode cX0_addRule 8 = .ok (.astore_n 3, 1) := by decide +kernel
theorem dX0_addRule_9 : decode cX0_addRule 9 = .ok (.aload_n 3, 1) := by decide +kernel
theorem dX0_addRule_10 : decode cX0_addRule 10 = .ok (.lload_n 1, 1) := by decide +kernel
theorem dX0_addRule_11 : decode cX0_addRule 11 = .ok (.invokevirtual 109, 3) := by decide +kernel
theorem dX0_addRule_14 : decode cX0_addRule 14 = .ok (.aload_n 0, 1) := by decide +kernel
theorem dX0_addRule_15 : decode cX0_addRule 15 = .ok (.aload_n 0, 1) := by decide +kernel
theorem dX0_addRule_16 : decode cX0_addRule 16 = .ok (.getfield 17, 3) := by decide +kernel
theorem dX0_addRule_19 : decode cX0_addRule 19 = .ok (.iconst 1, 1) := by decide +kernel
theorem dX0_addRule_20 : decode cX0_addRule 20 = .ok (.iadd, 1) := by decide +kernel
theorem dX0_addRule_21 : decode cX0_addRule 21 = .ok (.iconst 4, 1) := by decide +kernel
theorem dX0_addRule_22 : decode cX0_addRule 22 = .ok (.invokestatic 113, 3) := by decide +kernel
theorem dX0_addRule_25 : decode cX0_addRule 25 = .ok (.putfield 17, 3) := by decide +kernel
theorem dX0_addRule_28 : decode cX0_addRule 28 = .ok (.aload_n 3, 1) := by decide +kernel
theorem dX0_addRule_29 : decode cX0_addRule 29 = .ok (.areturn, 1) := by decide +kernel
theorem dX0_ruleNamed_0 : decode cX0_ruleNamed 0 = .ok (.iconst 0, 1) := by decide +kernel
theorem dX0_ruleNamed_1 : decode cX0_ruleNamed 1 = .ok (.istore_n 3, 1) := by decide +kernel
theorem dX0_ruleNamed_2 : decode cX0_ruleNamed 2 = .ok (.iload_n 3, 1) := by decide +kernel
theorem dX0_ruleNamed_3 : decode cX0_ruleNamed 3 = .ok (.aload_n 0, 1) := by decide +kernel
theorem dX0_ruleNamed_4 : decode cX0_ruleNamed 4 = .ok (.getfield 17, 3) := by decide +kernel
theorem dX0_ruleNamed_7 : decode cX0_ruleNamed 7 = .ok (.if_icmp .ge 30, 3) := by decide +kernel
theorem dX0_ruleNamed_10 : decode cX0_ruleNamed 10 = .ok (.iload_n 3, 1) := by decide +kernel
theorem dX0_ruleNamed_11 : decode cX0_ruleNamed 11 = .ok (.iconst 4, 1) := by decide +kernel
theorem dX0_ruleNamed_12 : decode cX0_ruleNamed 12 = .ok (.if_icmp .ge 25, 3) := by decide +kernel
theorem dX0_ruleNamed_15 : decode cX0_ruleNamed 15 = .ok (.aload_n 0, 1) := by decide +kernel
theorem dX0_ruleNamed_16 : decode cX0_ruleNamed 16 = .ok (.getfield 11, 3) := by decide +kernel
theorem dX0_ruleNamed_19 : decode cX0_ruleNamed 19 = .ok (.iload_n 3, 1) := by decide +kernel
theorem dX0_ruleNamed_20 : decode cX0_ruleNamed 20 = .ok (.aaload, 1) := by decide +kernel
theorem dX0_ruleNamed_21 : decode cX0_ruleNamed 21 = .ok (.getfield 118, 3) := by decide +kernel
theorem dX0_ruleNamed_24 : decode cX0_ruleNamed 24 = .ok (.lload_n 1, 1) := by decide +kernel
theorem dX0_ruleNamed_25 : decode cX0_ruleNamed 25 = .ok (.lcmp, 1) := by decide +kernel
theorem dX0_ruleNamed_26 : decode cX0_ruleNamed 26 = .ok (.ifCond .ne 5, 3) := by decide +kernel
theorem dX0_ruleNamed_29 : decode cX0_ruleNamed 29 = .ok (.iload_n 3, 1) := by decide +kernel
theorem dX0_ruleNamed_30 : decode cX0_ruleNamed 30 = .ok (.ireturn, 1) := by decide +kernel
theorem dX0_ruleNamed_31 : decode cX0_ruleNamed 31 = .ok (.iinc 3 1, 3) := by decide +kernel
theorem dX0_ruleNamed_34 : decode cX0_ruleNamed 34 = .ok (.goto (-32), 3) := by decide +kernel
theorem dX0_ruleNamed_37 : decode cX0_ruleNamed 37 = .ok (.iconst (-1), 1) := by decide +kernel
theorem dX0_ruleNamed_38 : decode cX0_ruleNamed 38 = .ok (.ireturn, 1) := by decide +kernel
theorem dX0_accountOf_0 : decode cX0_accountOf 0 = .ok (.iload_n 1, 1) := by decide +kernel
theorem dX0_accountOf_1 : decode cX0_accountOf 1 = .ok (.iconst 5, 1) := by decide +kernel
theorem dX0_accountOf_2 : decode cX0_accountOf 2 = .ok (.imul, 1) := by decide +kernel
theorem dX0_accountOf_3 : decode cX0_accountOf 3 = .ok (.iload_n 2, 1) := by decide +kernel
theorem dX0_accountOf_4 : decode cX0_accountOf 4 = .ok (.iadd, 1) := by decide +kernel
theorem dX0_accountOf_5 : decode cX0_accountOf 5 = .ok (.istore_n 3, 1) := by decide +kernel
theorem dX0_accountOf_6 : decode cX0_accountOf 6 = .ok (.iload_n 3, 1) := by decide +kernel
theorem dX0_accountOf_7 : decode cX0_accountOf 7 = .ok (.ifCond .lt 21, 3) := by decide +kernel
theorem dX0_accountOf_10 : decode cX0_accountOf 10 = .ok (.iload_n 3, 1) := by decide +kernel
theorem dX0_accountOf_11 : decode cX0_accountOf 11 = .ok (.aload_n 0, 1) := by decide +kernel
theorem dX0_accountOf_12 : decode cX0_accountOf 12 = .ok (.getfield 37, 3) := by decide +kernel
theorem dX0_accountOf_15 : decode cX0_accountOf 15 = .ok (.arraylength, 1) := by decide +kernel
theorem dX0_accountOf_16 : decode cX0_accountOf 16 = .ok (.if_icmp .ge 12, 3) := by decide +kernel
theorem dX0_accountOf_19 : decode cX0_accountOf 19 = .ok (.aload_n 0, 1) := by decide +kernel
theorem dX0_accountOf_20 : decode cX0_accountOf 20 = .ok (.getfield 37, 3) := by decide +kernel
theorem dX0_accountOf_23 : decode cX0_accountOf 23 = .ok (.iload_n 3, 1) := by decide +kernel
theorem dX0_accountOf_24 : decode cX0_accountOf 24 = .ok (.iaload, 1) := by decide +kernel
theorem dX0_accountOf_25 : decode cX0_accountOf 25 = .ok (.goto 4, 3) := by decide +kernel
theorem dX0_accountOf_28 : decode cX0_accountOf 28 = .ok (.iconst 0, 1) := by decide +kernel
theorem dX0_accountOf_29 : decode cX0_accountOf 29 = .ok (.ireturn, 1) := by decide +kernel
theorem dX0_addToAccount_0 : decode cX0_addToAccount 0 = .ok (.aload_n 0, 1) := by decide +kernel
theorem dX0_addToAccount_1 : decode cX0_addToAccount 1 = .ok (.getfield 28, 3) := by decide +kernel
theorem dX0_addToAccount_4 : decode cX0_addToAccount 4 = .ok (.iconst 5, 1) := by decide +kernel
theorem dX0_addToAccount_5 : decode cX0_addToAccount 5 = .ok (.imul, 1) := by decide +kernel
theorem dX0_addToAccount_6 : decode cX0_addToAccount 6 = .ok (.iload_n 1, 1) := by decide +kernel
theorem dX0_addToAccount_7 : decode cX0_addToAccount 7 = .ok (.iadd, 1) := by decide +kernel
theorem dX0_addToAccount_8 : decode cX0_addToAccount 8 = .ok (.istore_n 3, 1) := by decide +kernel
theorem dX0_addToAccount_9 : decode cX0_addToAccount 9 = .ok (.iload_n 3, 1) := by decide +kernel
theorem dX0_addToAccount_10 : decode cX0_addToAccount 10 = .ok (.ifCond .lt 22, 3) := by decide +kernel
theorem dX0_addToAccount_13 : decode cX0_addToAccount 13 = .ok (.iload_n 3, 1) := by decide +kernel
theorem dX0_addToAccount_14 : decode cX0_addToAccount 14 = .ok (.aload_n 0, 1) := by decide +kernel
theorem dX0_addToAccount_15 : decode cX0_addToAccount 15 = .ok (.getfield 37, 3) := by decide +kernel
theorem dX0_addToAccount_18 : decode cX0_addToAccount 18 = .ok (.arraylength, 1) := by decide +kernel
theorem dX0_addToAccount_19 : decode cX0_addToAccount 19 = .ok (.if_icmp .ge 13, 3) := by decide +kernel
theorem dX0_addToAccount_22 : decode cX0_addToAccount 22 = .ok (.aload_n 0, 1) := by decide +kernel
theorem dX0_addToAccount_23 : decode cX0_addToAccount 23 = .ok (.getfield 37, 3) := by decide +kernel
theorem dX0_addToAccount_26 : decode cX0_addToAccount 26 = .ok (.iload_n 3, 1) := by decide +kernel
theorem dX0_addToAccount_27 : decode cX0_addToAccount 27 = .ok (.dup2, 1) := by decide +kernel
theorem dX0_addToAccount_28 : decode cX0_addToAccount 28 = .ok (.iaload, 1) := by decide +kernel
theorem dX0_addToAccount_29 : decode cX0_addToAccount 29 = .ok (.iload_n 2, 1) := by decide +kernel
theorem dX0_addToAccount_30 : decode cX0_addToAccount 30 = .ok (.iadd, 1) := by decide +kernel
theorem dX0_addToAccount_31 : decode cX0_addToAccount 31 = .ok (.iastore, 1) := by decide +kernel
theorem dX0_addToAccount_32 : decode cX0_addToAccount 32 = .ok (.return_, 1) := by decide +kernel
theorem dX0_turnNumber_0 : decode cX0_turnNumber 0 = .ok (.iload_n 1, 1) := by decide +kernel
theorem dX0_turnNumber_1 : decode cX0_turnNumber 1 = .ok (.iconst 5, 1) := by decide +kernel
theorem dX0_turnNumber_2 : decode cX0_turnNumber 2 = .ok (.imul, 1) := by decide +kernel
theorem dX0_turnNumber_3 : decode cX0_turnNumber 3 = .ok (.iload_n 2, 1) := by decide +kernel
theorem dX0_turnNumber_4 : decode cX0_turnNumber 4 = .ok (.iadd, 1) := by decide +kernel
theorem dX0_turnNumber_5 : decode cX0_turnNumber 5 = .ok (.istore_n 3, 1) := by decide +kernel
theorem dX0_turnNumber_6 : decode cX0_turnNumber 6 = .ok (.iload_n 3, 1) := by decide +kernel
theorem dX0_turnNumber_7 : decode cX0_turnNumber 7 = .ok (.ifCond .lt 21, 3) := by decide +kernel
theorem dX0_turnNumber_10 : decode cX0_turnNumber 10 = .ok (.iload_n 3, 1) := by decide +kernel
theorem dX0_turnNumber_11 : decode cX0_turnNumber 11 = .ok (.aload_n 0, 1) := by decide +kernel
theorem dX0_turnNumber_12 : decode cX0_turnNumber 12 = .ok (.getfield 41, 3) := by decide +kernel
theorem dX0_turnNumber_15 : decode cX0_turnNumber 15 = .ok (.arraylength, 1) := by decide +kernel
theorem dX0_turnNumber_16 : decode cX0_turnNumber 16 = .ok (.if_icmp .ge 12, 3) := by decide +kernel
theorem dX0_turnNumber_19 : decode cX0_turnNumber 19 = .ok (.aload_n 0, 1) := by decide +kernel
theorem dX0_turnNumber_20 : decode cX0_turnNumber 20 = .ok (.getfield 41, 3) := by decide +kernel
theorem dX0_turnNumber_23 : decode cX0_turnNumber 23 = .ok (.iload_n 3, 1) := by decide +kernel
theorem dX0_turnNumber_24 : decode cX0_turnNumber 24 = .ok (.iaload, 1) := by decide +kernel
theorem dX0_turnNumber_25 : decode cX0_turnNumber 25 = .ok (.goto 4, 3) := by decide +kernel
theorem dX0_turnNumber_28 : decode cX0_turnNumber 28 = .ok (.iconst (-1), 1) := by decide +kernel
theorem dX0_turnNumber_29 : decode cX0_turnNumber 29 = .ok (.ireturn, 1) := by decide +kernel
theorem dX0_keepTurn_0 : decode cX0_keepTurn 0 = .ok (.aload_n 0, 1) := by decide +kernel
theorem dX0_keepTurn_1 : decode cX0_keepTurn 1 = .ok (.getfield 41, 3) := by decide +kernel
theorem dX0_keepTurn_4 : decode cX0_keepTurn 4 = .ok (.iconst 0, 1) := by decide +kernel
theorem dX0_keepTurn_5 : decode cX0_keepTurn 5 = .ok (.aload_n 0, 1) := by decide +kernel
theorem dX0_keepTurn_6 : decode cX0_keepTurn 6 = .ok (.getfield 41, 3) := by decide +kernel
theorem dX0_keepTurn_9 : decode cX0_keepTurn 9 = .ok (.iconst 5, 1) := by decide +kernel
theorem dX0_keepTurn_10 : decode cX0_keepTurn 10 = .ok (.aload_n 0, 1) := by decide +kernel
theorem dX0_keepTurn_11 : decode cX0_keepTurn 11 = .ok (.getfield 41, 3) := by decide +kernel
theorem dX0_keepTurn_14 : decode cX0_keepTurn 14 = .ok (.arraylength, 1) := by decide +kernel
theorem dX0_keepTurn_15 : decode cX0_keepTurn 15 = .ok (.iconst 5, 1) := by decide +kernel
theorem dX0_keepTurn_16 : decode cX0_keepTurn 16 = .ok (.isub, 1) := by decide +kernel
theorem dX0_keepTurn_17 : decode cX0_keepTurn 17 = .ok (.invokestatic 81, 3) := by decide +kernel
theorem dX0_keepTurn_20 : decode cX0_keepTurn 20 = .ok (.aload_n 0, 1) := by decide +kernel
theorem dX0_keepTurn_21 : decode cX0_keepTurn 21 = .ok (.getfield 41, 3) := by decide +kernel
theorem dX0_keepTurn_24 : decode cX0_keepTurn 24 = .ok (.iconst 0, 1) := by decide +kernel
theorem dX0_keepTurn_25 : decode cX0_keepTurn 25 = .ok (.aload_n 0, 1) := by decide +kernel
theorem dX0_keepTurn_26 : decode cX0_keepTurn 26 = .ok (.getfield 28, 3) := by decide +kernel
theorem dX0_keepTurn_29 : decode cX0_keepTurn 29 = .ok (.iastore, 1) := by decide +kernel
theorem dX0_keepTurn_30 : decode cX0_keepTurn 30 = .ok (.aload_n 0, 1) := by decide +kernel
theorem dX0_keepTurn_31 : decode cX0_keepTurn 31 = .ok (.getfield 41, 3) := by decide +kernel
theorem dX0_keepTurn_34 : decode cX0_keepTurn 34 = .ok (.iconst 1, 1) := by decide +kernel
theorem dX0_keepTurn_35 : decode cX0_keepTurn 35 = .ok (.iload_n 1, 1) := by decide +kernel
theorem dX0_keepTurn_36 : decode cX0_keepTurn 36 = .ok (.iastore, 1) := by decide +kernel
theorem dX0_keepTurn_37 : decode cX0_keepTurn 37 = .ok (.aload_n 0, 1) := by decide +kernel
theorem dX0_keepTurn_38 : decode cX0_keepTurn 38 = .ok (.getfield 41, 3) := by decide +kernel
theorem dX0_keepTurn_41 : decode cX0_keepTurn 41 = .ok (.iconst 2, 1) := by decide +kernel
theorem dX0_keepTurn_42 : decode cX0_keepTurn 42 = .ok (.iload_n 2, 1) := by decide +kernel
theorem dX0_keepTurn_43 : decode cX0_keepTurn 43 = .ok (.iastore, 1) := by decide +kernel
theorem dX0_keepTurn_44 : decode cX0_keepTurn 44 = .ok (.aload_n 0, 1) := by decide +kernel
theorem dX0_keepTurn_45 : decode cX0_keepTurn 45 = .ok (.getfield 41, 3) := by decide +kernel
theorem dX0_keepTurn_48 : decode cX0_keepTurn 48 = .ok (.iconst 3, 1) := by decide +kernel
theorem dX0_keepTurn_49 : decode cX0_keepTurn 49 = .ok (.iload_n 3, 1) := by decide +kernel
theorem dX0_keepTurn_50 : decode cX0_keepTurn 50 = .ok (.iastore, 1) := by decide +kernel
theorem dX0_keepTurn_51 : decode cX0_keepTurn 51 = .ok (.aload_n 0, 1) := by decide +kernel
theorem dX0_keepTurn_52 : decode cX0_keepTurn 52 = .ok (.getfield 41, 3) := by decide +kernel
theorem dX0_keepTurn_55 : decode cX0_keepTurn 55 = .ok (.iconst 4, 1) := by decide +kernel
theorem dX0_keepTurn_56 : decode cX0_keepTurn 56 = .ok (.iload 4, 2) := by decide +kernel
theorem dX0_keepTurn_58 : decode cX0_keepTurn 58 = .ok (.iastore, 1) := by decide +kernel
theorem dX0_keepTurn_59 : decode cX0_keepTurn 59 = .ok (.aload_n 0, 1) := by decide +kernel
theorem dX0_keepTurn_60 : decode cX0_keepTurn 60 = .ok (.aload_n 0, 1) := by decide +kernel
theorem dX0_keepTurn_61 : decode cX0_keepTurn 61 = .ok (.getfield 44, 3) := by decide +kernel
theorem dX0_keepTurn_64 : decode cX0_keepTurn 64 = .ok (.iconst 1, 1) := by decide +kernel
theorem dX0_keepTurn_65 : decode cX0_keepTurn 65 = .ok (.iadd, 1) := by decide +kernel
theorem dX0_keepTurn_66 : decode cX0_keepTurn 66 = .ok (.bipush 20, 2) := by decide +kernel
theorem dX0_keepTurn_68 : decode cX0_keepTurn 68 = .ok (.invokestatic 113, 3) := by decide +kernel
theorem dX0_keepTurn_71 : decode cX0_keepTurn 71 = .ok (.putfield 44, 3) := by decide +kernel
theorem dX0_keepTurn_74 : decode cX0_keepTurn 74 = .ok (.return_, 1) := by decide +kernel
theorem dX1_init_0 : decode cX1_init 0 = .ok (.aload_n 0, 1) := by decide +kernel
theorem dX1_init_1 : decode cX1_init 1 = .ok (.invokespecial 3, 3) := by decide +kernel
theorem dX1_init_4 : decode cX1_init 4 = .ok (.aload_n 0, 1) := by decide +kernel
theorem dX1_init_5 : decode cX1_init 5 = .ok (.iconst 0, 1) := by decide +kernel
theorem dX1_init_6 : decode cX1_init 6 = .ok (.putfield 9, 3) := by decide +kernel
theorem dX1_init_9 : decode cX1_init 9 = .ok (.aload_n 0, 1) := by decide +kernel
theorem dX1_init_10 : decode cX1_init 10 = .ok (.iconst 0, 1) := by decide +kernel
theorem dX1_init_11 : decode cX1_init 11 = .ok (.putfield 15, 3) := by decide +kernel
theorem dX1_init_14 : decode cX1_init 14 = .ok (.aload_n 0, 1) := by decide +kernel
theorem dX1_init_15 : decode cX1_init 15 = .ok (.iconst (-1), 1) := by decide +kernel
theorem dX1_init_16 : decode cX1_init 16 = .ok (.putfield 18, 3) := by decide +kernel
theorem dX1_init_19 : decode cX1_init 19 = .ok (.aload_n 0, 1) := by decide +kernel
theorem dX1_init_20 : decode cX1_init 20 = .ok (.iconst (-1), 1) := by decide +kernel
theorem dX1_init_21 : decode cX1_init 21 = .ok (.putfield 22, 3) := by decide +kernel
theorem dX1_init_24 : decode cX1_init 24 = .ok (.aload_n 0, 1) := by decide +kernel
theorem dX1_init_25 : decode cX1_init 25 = .ok (.iconst (-1), 1) := by decide +kernel
theorem dX1_init_26 : decode cX1_init 26 = .ok (.putfield 25, 3) := by decide +kernel
theorem dX1_init_29 : decode cX1_init 29 = .ok (.return_, 1) := by decide +kernel
theorem dX2_init_0 : decode cX2_init 0 = .ok (.aload_n 0, 1) := by decide +kernel
theorem dX2_init_1 : decode cX2_init 1 = .ok (.invokespecial 3, 3) := by decide +kernel
theorem dX2_init_4 : decode cX2_init 4 = .ok (.aload_n 0, 1) := by decide +kernel
theorem dX2_init_5 : decode cX2_init 5 = .ok (.bipush 8, 2) := by decide +kernel
theorem dX2_init_7 : decode cX2_init 7 = .ok (.anewarray 9, 3) := by decide +kernel
theorem dX2_init_10 : decode cX2_init 10 = .ok (.putfield 11, 3) := by decide +kernel
theorem dX2_init_13 : decode cX2_init 13 = .ok (.aload_n 0, 1) := by decide +kernel
theorem dX2_init_14 : decode cX2_init 14 = .ok (.iconst 0, 1) := by decide +kernel
theorem dX2_init_15 : decode cX2_init 15 = .ok (.putfield 17, 3) := by decide +kernel
theorem dX2_init_18 : decode cX2_init 18 = .ok (.aload_n 0, 1) := by decide +kernel
theorem dX2_init_19 : decode cX2_init 19 = .ok (.iconst 0, 1) := by decide +kernel
theorem dX2_init_20 : decode cX2_init 20 = .ok (.putfield 21, 3) := by decide +kernel
theorem dX2_init_23 : decode cX2_init 23 = .ok (.iconst 0, 1) := by decide +kernel
theorem dX2_init_24 : decode cX2_init 24 = .ok (.istore_n 1, 1) := by decide +kernel
theorem dX2_init_25 : decode cX2_init 25 = .ok (.iload_n 1, 1) := by decide +kernel
theorem dX2_init_26 : decode cX2_init 26 = .ok (.bipush 8, 2) := by decide +kernel
theorem dX2_init_28 : decode cX2_init 28 = .ok (.if_icmp .ge 22, 3) := by decide +kernel
theorem dX2_init_31 : decode cX2_init 31 = .ok (.aload_n 0, 1) := by decide +kernel
theorem dX2_init_32 : decode cX2_init 32 = .ok (.getfield 11, 3) := by decide +kernel
theorem dX2_init_35 : decode cX2_init 35 = .ok (.iload_n 1, 1) := by decide +kernel
theorem dX2_init_36 : decode cX2_init 36 = .ok (.new 9, 3) := by decide +kernel
theorem dX2_init_39 : decode cX2_init 39 = .ok (.dup, 1) := by decide +kernel
theorem dX2_init_40 : decode cX2_init 40 = .ok (.invokespecial 24, 3) := by decide +kernel
theorem dX2_init_43 : decode cX2_init 43 = .ok (.aastore, 1) := by decide +kernel
theorem dX2_init_44 : decode cX2_init 44 = .ok (.iinc 1 1, 3) := by decide +kernel
theorem dX2_init_47 : decode cX2_init 47 = .ok (.goto (-22), 3) := by decide +kernel
theorem dX2_init_50 : decode cX2_init 50 = .ok (.return_, 1) := by decide +kernel
theorem dX2_clear_0 : decode cX2_clear 0 = .ok (.aload_n 0, 1) := by decide +kernel
theorem dX2_clear_1 : decode cX2_clear 1 = .ok (.iconst 0, 1) := by decide +kernel
theorem dX2_clear_2 : decode cX2_clear 2 = .ok (.putfield 21, 3) := by decide +kernel
theorem dX2_clear_5 : decode cX2_clear 5 = .ok (.return_, 1) := by decide +kernel
theorem dX2_push_0 : decode cX2_push 0 = .ok (.aload_n 0, 1) := by decide +kernel
theorem dX2_push_1 : decode cX2_push 1 = .ok (.getfield 17, 3) := by decide +kernel
theorem dX2_push_4 : decode cX2_push 4 = .ok (.ifCond .lt 53, 3) := by decide +kernel
theorem dX2_push_7 : decode cX2_push 7 = .ok (.aload_n 0, 1) := by decide +kernel
theorem dX2_push_8 : decode cX2_push 8 = .ok (.getfield 17, 3) := by decide +kernel
theorem dX2_push_11 : decode cX2_push 11 = .ok (.bipush 8, 2) := by decide +kernel
theorem dX2_push_13 : decode cX2_push 13 = .ok (.if_icmp .ge 44, 3) := by decide +kernel
theorem dX2_push_16 : decode cX2_push 16 = .ok (.aload_n 0, 1) := by decide +kernel
theorem dX2_push_17 : decode cX2_push 17 = .ok (.getfield 11, 3) := by decide +kernel
theorem dX2_push_20 : decode cX2_push 20 = .ok (.aload_n 0, 1) := by decide +kernel
theorem dX2_push_21 : decode cX2_push 21 = .ok (.getfield 17, 3) := by decide +kernel
theorem dX2_push_24 : decode cX2_push 24 = .ok (.aaload, 1) := by decide +kernel
theorem dX2_push_25 : decode cX2_push 25 = .ok (.aload_n 1, 1) := by decide +kernel
theorem dX2_push_26 : decode cX2_push 26 = .ok (.invokevirtual 25, 3) := by decide +kernel
theorem dX2_push_29 : decode cX2_push 29 = .ok (.aload_n 0, 1) := by decide +kernel
theorem dX2_push_30 : decode cX2_push 30 = .ok (.aload_n 0, 1) := by decide +kernel
theorem dX2_push_31 : decode cX2_push 31 = .ok (.getfield 17, 3) := by decide +kernel
theorem dX2_push_34 : decode cX2_push 34 = .ok (.iconst 1, 1) := by decide +kernel
theorem dX2_push_35 : decode cX2_push 35 = .ok (.iadd, 1) := by decide +kernel
theorem dX2_push_36 : decode cX2_push 36 = .ok (.bipush 8, 2) := by decide +kernel
theorem dX2_push_38 : decode cX2_push 38 = .ok (.irem, 1) := by decide +kernel
theorem dX2_push_39 : decode cX2_push 39 = .ok (.putfield 17, 3) := by decide +kernel
theorem dX2_push_42 : decode cX2_push 42 = .ok (.aload_n 0, 1) := by decide +kernel
theorem dX2_push_43 : decode cX2_push 43 = .ok (.aload_n 0, 1) := by decide +kernel
theorem dX2_push_44 : decode cX2_push 44 = .ok (.getfield 21, 3) := by decide +kernel
theorem dX2_push_47 : decode cX2_push 47 = .ok (.iconst 1, 1) := by decide +kernel
theorem dX2_push_48 : decode cX2_push 48 = .ok (.iadd, 1) := by decide +kernel
theorem dX2_push_49 : decode cX2_push 49 = .ok (.bipush 8, 2) := by decide +kernel
theorem dX2_push_51 : decode cX2_push 51 = .ok (.invokestatic 29, 3) := by decide +kernel
theorem dX2_push_54 : decode cX2_push 54 = .ok (.putfield 21, 3) := by decide +kernel
theorem dX2_push_57 : decode cX2_push 57 = .ok (.return_, 1) := by decide +kernel
theorem dX2_pop_0 : decode cX2_pop 0 = .ok (.aload_n 0, 1) := by decide +kernel
theorem dX2_pop_1 : decode cX2_pop 1 = .ok (.getfield 17, 3) := by decide +kernel
theorem dX2_pop_4 : decode cX2_pop 4 = .ok (.bipush 8, 2) := by decide +kernel
theorem dX2_pop_6 : decode cX2_pop 6 = .ok (.iadd, 1) := by decide +kernel
theorem dX2_pop_7 : decode cX2_pop 7 = .ok (.iconst 1, 1) := by decide +kernel
theorem dX2_pop_8 : decode cX2_pop 8 = .ok (.isub, 1) := by decide +kernel
theorem dX2_pop_9 : decode cX2_pop 9 = .ok (.bipush 8, 2) := by decide +kernel
theorem dX2_pop_11 : decode cX2_pop 11 = .ok (.irem, 1) := by decide +kernel
theorem dX2_pop_12 : decode cX2_pop 12 = .ok (.istore_n 2, 1) := by decide +kernel
theorem dX2_pop_13 : decode cX2_pop 13 = .ok (.aload_n 0, 1) := by decide +kernel
theorem dX2_pop_14 : decode cX2_pop 14 = .ok (.getfield 21, 3) := by decide +kernel
theorem dX2_pop_17 : decode cX2_pop 17 = .ok (.ifCond .le 32, 3) := by decide +kernel
theorem dX2_pop_20 : decode cX2_pop 20 = .ok (.iload_n 2, 1) := by decide +kernel
theorem dX2_pop_21 : decode cX2_pop 21 = .ok (.ifCond .lt 28, 3) := by decide +kernel
theorem dX2_pop_24 : decode cX2_pop 24 = .ok (.aload_n 1, 1) := by decide +kernel
theorem dX2_pop_25 : decode cX2_pop 25 = .ok (.aload_n 0, 1) := by decide +kernel
theorem dX2_pop_26 : decode cX2_pop 26 = .ok (.getfield 11, 3) := by decide +kernel
theorem dX2_pop_29 : decode cX2_pop 29 = .ok (.iload_n 2, 1) := by decide +kernel
theorem dX2_pop_30 : decode cX2_pop 30 = .ok (.aaload, 1) := by decide +kernel
theorem dX2_pop_31 : decode cX2_pop 31 = .ok (.invokevirtual 25, 3) := by decide +kernel
theorem dX2_pop_34 : decode cX2_pop 34 = .ok (.aload_n 0, 1) := by decide +kernel
theorem dX2_pop_35 : decode cX2_pop 35 = .ok (.iload_n 2, 1) := by decide +kernel
theorem dX2_pop_36 : decode cX2_pop 36 = .ok (.putfield 17, 3) := by decide +kernel
theorem dX2_pop_39 : decode cX2_pop 39 = .ok (.aload_n 0, 1) := by decide +kernel
theorem dX2_pop_40 : decode cX2_pop 40 = .ok (.dup, 1) := by decide +kernel
theorem dX2_pop_41 : decode cX2_pop 41 = .ok (.getfield 21, 3) := by decide +kernel
theorem dX2_pop_44 : decode cX2_pop 44 = .ok (.iconst 1, 1) := by decide +kernel
theorem dX2_pop_45 : decode cX2_pop 45 = .ok (.isub, 1) := by decide +kernel
theorem dX2_pop_46 : decode cX2_pop 46 = .ok (.putfield 21, 3) := by decide +kernel
theorem dX2_pop_49 : decode cX2_pop 49 = .ok (.return_, 1) := by decide +kernel
theorem dX3_init_0 : decode cX3_init 0 = .ok (.aload_n 0, 1) := by decide +kernel
theorem dX3_init_1 : decode cX3_init 1 = .ok (.invokespecial 3, 3) := by decide +kernel
theorem dX3_init_4 : decode cX3_init 4 = .ok (.aload_n 0, 1) := by decide +kernel
theorem dX3_init_5 : decode cX3_init 5 = .ok (.new 9, 3) := by decide +kernel
theorem dX3_init_8 : decode cX3_init 8 = .ok (.dup, 1) := by decide +kernel
theorem dX3_init_9 : decode cX3_init 9 = .ok (.invokespecial 11, 3) := by decide +kernel
theorem dX3_init_12 : decode cX3_init 12 = .ok (.putfield 12, 3) := by decide +kernel
theorem dX3_init_15 : decode cX3_init 15 = .ok (.aload_n 0, 1) := by decide +kernel
theorem dX3_init_16 : decode cX3_init 16 = .ok (.new 18, 3) := by decide +kernel
theorem dX3_init_19 : decode cX3_init 19 = .ok (.dup, 1) := by decide +kernel
theorem dX3_init_20 : decode cX3_init 20 = .ok (.invokespecial 20, 3) := by decide +kernel
theorem dX3_init_23 : decode cX3_init 23 = .ok (.putfield 21, 3) := by decide +kernel
theorem dX3_init_26 : decode cX3_init 26 = .ok (.aload_n 0, 1) := by decide +kernel
theorem dX3_init_27 : decode cX3_init 27 = .ok (.iconst 0, 1) := by decide +kernel
theorem dX3_init_28 : decode cX3_init 28 = .ok (.putfield 25, 3) := by decide +kernel
theorem dX3_init_31 : decode cX3_init 31 = .ok (.aload_n 0, 1) := by decide +kernel
theorem dX3_init_32 : decode cX3_init 32 = .ok (.iconst 0, 1) := by decide +kernel
theorem dX3_init_33 : decode cX3_init 33 = .ok (.putfield 29, 3) := by decide +kernel
theorem dX3_init_36 : decode cX3_init 36 = .ok (.aload_n 0, 1) := by decide +kernel
theorem dX3_init_37 : decode cX3_init 37 = .ok (.iconst (-1), 1) := by decide +kernel
theorem dX3_init_38 : decode cX3_init 38 = .ok (.putfield 33, 3) := by decide +kernel
theorem dX3_init_41 : decode cX3_init 41 = .ok (.return_, 1) := by decide +kernel
theorem dX3_read_0 : decode cX3_read 0 = .ok (.aload_n 0, 1) := by decide +kernel
theorem dX3_read_1 : decode cX3_read 1 = .ok (.getfield 21, 3) := by decide +kernel
theorem dX3_read_4 : decode cX3_read 4 = .ok (.invokevirtual 36, 3) := by decide +kernel
theorem dX3_read_7 : decode cX3_read 7 = .ok (.aload_n 0, 1) := by decide +kernel
theorem dX3_read_8 : decode cX3_read 8 = .ok (.iconst 0, 1) := by decide +kernel
theorem dX3_read_9 : decode cX3_read 9 = .ok (.putfield 25, 3) := by decide +kernel
theorem dX3_read_12 : decode cX3_read 12 = .ok (.aload_n 0, 1) := by decide +kernel
theorem dX3_read_13 : decode cX3_read 13 = .ok (.iconst 0, 1) := by decide +kernel
theorem dX3_read_14 : decode cX3_read 14 = .ok (.putfield 29, 3) := by decide +kernel
theorem dX3_read_17 : decode cX3_read 17 = .ok (.aload_n 0, 1) := by decide +kernel
theorem dX3_read_18 : decode cX3_read 18 = .ok (.iconst (-1), 1) := by decide +kernel
theorem dX3_read_19 : decode cX3_read 19 = .ok (.putfield 33, 3) := by decide +kernel
theorem dX3_read_22 : decode cX3_read 22 = .ok (.aload_n 0, 1) := by decide +kernel
theorem dX3_read_23 : decode cX3_read 23 = .ok (.getfield 12, 3) := by decide +kernel
theorem dX3_read_26 : decode cX3_read 26 = .ok (.aload_n 1, 1) := by decide +kernel
theorem dX3_read_27 : decode cX3_read 27 = .ok (.iload_n 2, 1) := by decide +kernel
theorem dX3_read_28 : decode cX3_read 28 = .ok (.invokevirtual 39, 3) := by decide +kernel
theorem dX3_read_31 : decode cX3_read 31 = .ok (.iconst 1, 1) := by decide +kernel
theorem dX3_read_32 : decode cX3_read 32 = .ok (.istore_n 3, 1) := by decide +kernel
theorem dX3_read_33 : decode cX3_read 33 = .ok (.iconst 0, 1) := by decide +kernel
theorem dX3_read_34 : decode cX3_read 34 = .ok (.istore 4, 2) := by decide +kernel
theorem dX3_read_36 : decode cX3_read 36 = .ok (.iload 4, 2) := by decide +kernel
theorem dX3_read_38 : decode cX3_read 38 = .ok (.iload_n 2, 1) := by decide +kernel
theorem dX3_read_39 : decode cX3_read 39 = .ok (.if_icmp .ge 126, 3) := by decide +kernel
theorem dX3_read_42 : decode cX3_read 42 = .ok (.iload_n 3, 1) := by decide +kernel
theorem dX3_read_43 : decode cX3_read 43 = .ok (.ifCond .eq 122, 3) := by decide +kernel
theorem dX3_read_46 : decode cX3_read 46 = .ok (.aload_n 0, 1) := by decide +kernel
theorem dX3_read_47 : decode cX3_read 47 = .ok (.getfield 12, 3) := by decide +kernel
theorem dX3_read_50 : decode cX3_read 50 = .ok (.getfield 43, 3) := by decide +kernel
theorem dX3_read_53 : decode cX3_read 53 = .ok (.ifCond .eq 112, 3) := by decide +kernel
theorem dX3_read_56 : decode cX3_read 56 = .ok (.aload_n 0, 1) := by decide +kernel
theorem dX3_read_57 : decode cX3_read 57 = .ok (.getfield 12, 3) := by decide +kernel
theorem dX3_read_60 : decode cX3_read 60 = .ok (.ldc 46, 2) := by decide +kernel
theorem dX3_read_62 : decode cX3_read 62 = .ok (.invokevirtual 48, 3) := by decide +kernel
theorem dX3_read_65 : decode cX3_read 65 = .ok (.ifCond .eq 11, 3) := by decide +kernel
theorem dX3_read_68 : decode cX3_read 68 = .ok (.aload_n 0, 1) := by decide +kernel
theorem dX3_read_69 : decode cX3_read 69 = .ok (.invokevirtual 52, 3) := by decide +kernel
theorem dX3_read_72 : decode cX3_read 72 = .ok (.istore_n 3, 1) := by decide +kernel
theorem dX3_read_73 : decode cX3_read 73 = .ok (.goto 69, 3) := by decide +kernel
theorem dX3_read_76 : decode cX3_read 76 = .ok (.aload_n 0, 1) := by decide +kernel
theorem dX3_read_77 : decode cX3_read 77 = .ok (.getfield 12, 3) := by decide +kernel
theorem dX3_read_80 : decode cX3_read 80 = .ok (.ldc 56, 2) := by decide +kernel
theorem dX3_read_82 : decode cX3_read 82 = .ok (.invokevirtual 48, 3) := by decide +kernel
theorem dX3_read_85 : decode cX3_read 85 = .ok (.ifCond .eq 11, 3) := by decide +kernel
theorem dX3_read_88 : decode cX3_read 88 = .ok (.aload_n 0, 1) := by decide +kernel
theorem dX3_read_89 : decode cX3_read 89 = .ok (.invokevirtual 58, 3) := by decide +kernel
theorem dX3_read_92 : decode cX3_read 92 = .ok (.istore_n 3, 1) := by decide +kernel
theorem dX3_read_93 : decode cX3_read 93 = .ok (.goto 49, 3) := by decide +kernel
theorem dX3_read_96 : decode cX3_read 96 = .ok (.aload_n 0, 1) := by decide +kernel
theorem dX3_read_97 : decode cX3_read 97 = .ok (.getfield 12, 3) := by decide +kernel
theorem dX3_read_100 : decode cX3_read 100 = .ok (.ldc 61, 2) := by decide +kernel
theorem dX3_read_102 : decode cX3_read 102 = .ok (.invokevirtual 48, 3) := by decide +kernel
theorem dX3_read_105 : decode cX3_read 105 = .ok (.ifCond .eq 11, 3) := by decide +kernel
theorem dX3_read_108 : decode cX3_read 108 = .ok (.aload_n 0, 1) := by decide +kernel
theorem dX3_read_109 : decode cX3_read 109 = .ok (.invokevirtual 63, 3) := by decide +kernel
theorem dX3_read_112 : decode cX3_read 112 = .ok (.istore_n 3, 1) := by decide +kernel
theorem dX3_read_113 : decode cX3_read 113 = .ok (.goto 29, 3) := by decide +kernel
theorem dX3_read_116 : decode cX3_read 116 = .ok (.aload_n 0, 1) := by decide +kernel
theorem dX3_read_117 : decode cX3_read 117 = .ok (.getfield 12, 3) := by decide +kernel
theorem dX3_read_120 : decode cX3_read 120 = .ok (.ldc 66, 2) := by decide +kernel
theorem dX3_read_122 : decode cX3_read 122 = .ok (.invokevirtual 48, 3) := by decide +kernel
theorem dX3_read_125 : decode cX3_read 125 = .ok (.ifCond .eq 11, 3) := by decide +kernel
theorem dX3_read_128 : decode cX3_read 128 = .ok (.aload_n 0, 1) := by decide +kernel
theorem dX3_read_129 : decode cX3_read 129 = .ok (.invokevirtual 68, 3) := by decide +kernel
theorem dX3_read_132 : decode cX3_read 132 = .ok (.istore_n 3, 1) := by decide +kernel
theorem dX3_read_133 : decode cX3_read 133 = .ok (.goto 9, 3) := by decide +kernel
theorem dX3_read_136 : decode cX3_read 136 = .ok (.aload_n 0, 1) := by decide +kernel
theorem dX3_read_137 : decode cX3_read 137 = .ok (.iconst 1, 1) := by decide +kernel
theorem dX3_read_138 : decode cX3_read 138 = .ok (.invokevirtual 71, 3) := by decide +kernel
theorem dX3_read_141 : decode cX3_read 141 = .ok (.istore_n 3, 1) := by decide +kernel
theorem dX3_read_142 : decode cX3_read 142 = .ok (.iload_n 3, 1) := by decide +kernel
theorem dX3_read_143 : decode cX3_read 143 = .ok (.ifCond .eq 14, 3) := by decide +kernel
theorem dX3_read_146 : decode cX3_read 146 = .ok (.aload_n 0, 1) := by decide +kernel
theorem dX3_read_147 : decode cX3_read 147 = .ok (.invokevirtual 75, 3) := by decide +kernel
theorem dX3_read_150 : decode cX3_read 150 = .ok (.ifCond .eq 7, 3) := by decide +kernel
theorem dX3_read_153 : decode cX3_read 153 = .ok (.iconst 1, 1) := by decide +kernel
theorem dX3_read_154 : decode cX3_read 154 = .ok (.goto 4, 3) := by decide +kernel
theorem dX3_read_157 : decode cX3_read 157 = .ok (.iconst 0, 1) := by decide +kernel
theorem dX3_read_158 : decode cX3_read 158 = .ok (.istore_n 3, 1) := by decide +kernel
theorem dX3_read_159 : decode cX3_read 159 = .ok (.iinc 4 1, 3) := by decide +kernel
theorem dX3_read_162 : decode cX3_read 162 = .ok (.goto (-126), 3) := by decide +kernel
theorem dX3_read_165 : decode cX3_read 165 = .ok (.iload_n 3, 1) := by decide +kernel
theorem dX3_read_166 : decode cX3_read 166 = .ok (.ifCond .eq 19, 3) := by decide +kernel
theorem dX3_read_169 : decode cX3_read 169 = .ok (.aload_n 0, 1) := by decide +kernel
theorem dX3_read_170 : decode cX3_read 170 = .ok (.getfield 21, 3) := by decide +kernel
theorem dX3_read_173 : decode cX3_read 173 = .ok (.getfield 78, 3) := by decide +kernel
theorem dX3_read_176 : decode cX3_read 176 = .ok (.ifCond .ne 9, 3) := by decide +kernel
theorem dX3_read_179 : decode cX3_read 179 = .ok (.aload_n 0, 1) := by decide +kernel
theorem dX3_read_180 : decode cX3_read 180 = .ok (.iconst 1, 1) := by decide +kernel
theorem dX3_read_181 : decode cX3_read 181 = .ok (.invokevirtual 71, 3) := by decide +kernel
theorem dX3_read_184 : decode cX3_read 184 = .ok (.pop, 1) := by decide +kernel
theorem dX3_read_185 : decode cX3_read 185 = .ok (.aload_n 0, 1) := by decide +kernel
theorem dX3_read_186 : decode cX3_read 186 = .ok (.getfield 29, 3) := by decide +kernel
theorem dX3_read_189 : decode cX3_read 189 = .ok (.ireturn, 1) := by decide +kernel
theorem dX3_fail_0 : decode cX3_fail 0 = .ok (.aload_n 0, 1) := by decide +kernel
theorem dX3_fail_1 : decode cX3_fail 1 = .ok (.iload_n 1, 1) := by decide +kernel
theorem dX3_fail_2 : decode cX3_fail 2 = .ok (.putfield 29, 3) := by decide +kernel
theorem dX3_fail_5 : decode cX3_fail 5 = .ok (.aload_n 0, 1) := by decide +kernel
theorem dX3_fail_6 : decode cX3_fail 6 = .ok (.aload_n 0, 1) := by decide +kernel
theorem dX3_fail_7 : decode cX3_fail 7 = .ok (.getfield 12, 3) := by decide +kernel
theorem dX3_fail_10 : decode cX3_fail 10 = .ok (.getfield 81, 3) := by decide +kernel
theorem dX3_fail_13 : decode cX3_fail 13 = .ok (.putfield 33, 3) := by decide +kernel
theorem dX3_fail_16 : decode cX3_fail 16 = .ok (.iconst 0, 1) := by decide +kernel
theorem dX3_fail_17 : decode cX3_fail 17 = .ok (.ireturn, 1) := by decide +kernel
theorem dX3_readSemicolon_0 : decode cX3_readSemicolon 0 = .ok (.aload_n 0, 1) := by decide +kernel
theorem dX3_readSemicolon_1 : decode cX3_readSemicolon 1 = .ok (.getfield 12, 3) := by decide +kernel
theorem dX3_readSemicolon_4 : decode cX3_readSemicolon 4 = .ok (.getfield 43, 3) := by decide +kernel
theorem dX3_readSemicolon_7 : decode cX3_readSemicolon 7 = .ok (.iconst 3, 1) := by decide +kernel
theorem dX3_readSemicolon_8 : decode cX3_readSemicolon 8 = .ok (.if_icmp .eq 9, 3) := by decide +kernel
theorem dX3_readSemicolon_11 : decode cX3_readSemicolon 11 = .ok (.aload_n 0, 1) := by decide +kernel
theorem dX3_readSemicolon_12 : decode cX3_readSemicolon 12 = .ok (.iconst 1, 1) := by decide +kernel
theorem dX3_readSemicolon_13 : decode cX3_readSemicolon 13 = .ok (.invokevirtual 71, 3) := by decide +kernel
theorem dX3_readSemicolon_16 : decode cX3_readSemicolon 16 = .ok (.ireturn, 1) := by decide +kernel
theorem dX3_readSemicolon_17 : decode cX3_readSemicolon 17 = .ok (.aload_n 0, 1) := by decide +kernel
theorem dX3_readSemicolon_18 : decode cX3_readSemicolon 18 = .ok (.getfield 12, 3) := by decide +kernel
theorem dX3_readSemicolon_21 : decode cX3_readSemicolon 21 = .ok (.invokevirtual 84, 3) := by decide +kernel
theorem dX3_readSemicolon_24 : decode cX3_readSemicolon 24 = .ok (.iconst 1, 1) := by decide +kernel
theorem dX3_readSemicolon_25 : decode cX3_readSemicolon 25 = .ok (.ireturn, 1) := by decide +kernel
theorem dX3_readRule_0 : decode cX3_readRule 0 = .ok (.aload_n 0, 1) := by decide +kernel
theorem dX3_readRule_1 : decode cX3_readRule 1 = .ok (.getfield 21, 3) := by decide +kernel
theorem dX3_readRule_4 : decode cX3_readRule 4 = .ok (.getfield 78, 3) := by decide +kernel
theorem dX3_readRule_7 : decode cX3_readRule 7 = .ok (.iconst 4, 1) := by decide +kernel
theorem dX3_readRule_8 : decode cX3_readRule 8 = .ok (.if_icmp .lt 9, 3) := by decide +kernel
theorem dX3_readRule_11 : decode cX3_readRule 11 = .ok (.aload_n 0, 1) := by decide +kernel
theorem dX3_readRule_12 : decode cX3_readRule 12 = .ok (.iconst 5, 1) := by decide +kernel
theorem dX3_readRule_13 : decode cX3_readRule 13 = .ok (.invokevirtual 71, 3) := by decide +kernel
theorem dX3_readRule_16 : decode cX3_readRule 16 = .ok (.ireturn, 1) := by decide +kernel
theorem dX3_readRule_17 : decode cX3_readRule 17 = .ok (.aload_n 0, 1) := by decide +kernel
theorem dX3_readRule_18 : decode cX3_readRule 18 = .ok (.getfield 12, 3) := by decide +kernel
theorem dX3_readRule_21 : decode cX3_readRule 21 = .ok (.invokevirtual 84, 3) := by decide +kernel
theorem dX3_readRule_24 : decode cX3_readRule 24 = .ok (.aload_n 0, 1) := by decide +kernel
theorem dX3_readRule_25 : decode cX3_readRule 25 = .ok (.getfield 12, 3) := by decide +kernel
theorem dX3_readRule_28 : decode cX3_readRule 28 = .ok (.invokevirtual 87, 3) := by decide +kernel
theorem dX3_readRule_31 : decode cX3_readRule 31 = .ok (.ifCond .ne 9, 3) := by decide +kernel
theorem dX3_readRule_34 : decode cX3_readRule 34 = .ok (.aload_n 0, 1) := by decide +kernel
theorem dX3_readRule_35 : decode cX3_readRule 35 = .ok (.iconst 1, 1) := by decide +kernel
theorem dX3_readRule_36 : decode cX3_readRule 36 = .ok (.invokevirtual 71, 3) := by decide +kernel
theorem dX3_readRule_39 : decode cX3_readRule 39 = .ok (.ireturn, 1) := by decide +kernel
theorem dX3_readRule_40 : decode cX3_readRule 40 = .ok (.aload_n 0, 1) := by decide +kernel
theorem dX3_readRule_41 : decode cX3_readRule 41 = .ok (.getfield 21, 3) := by decide +kernel
theorem dX3_readRule_44 : decode cX3_readRule 44 = .ok (.aload_n 0, 1) := by decide +kernel
theorem dX3_readRule_45 : decode cX3_readRule 45 = .ok (.getfield 12, 3) := by decide +kernel
theorem dX3_readRule_48 : decode cX3_readRule 48 = .ok (.invokevirtual 90, 3) := by decide +kernel
theorem dX3_readRule_51 : decode cX3_readRule 51 = .ok (.invokevirtual 94, 3) := by decide +kernel
theorem dX3_readRule_54 : decode cX3_readRule 54 = .ok (.iconst (-1), 1) := by decide +kernel
theorem dX3_readRule_55 : decode cX3_readRule 55 = .ok (.if_icmp .eq 9, 3) := by decide +kernel
theorem dX3_readRule_58 : decode cX3_readRule 58 = .ok (.aload_n 0, 1) := by decide +kernel
theorem dX3_readRule_59 : decode cX3_readRule 59 = .ok (.iconst 4, 1) := by decide +kernel
theorem dX3_readRule_60 : decode cX3_readRule 60 = .ok (.invokevirtual 71, 3) := by decide +kernel
theorem dX3_readRule_63 : decode cX3_readRule 63 = .ok (.ireturn, 1) := by decide +kernel
theorem dX3_readRule_64 : decode cX3_readRule 64 = .ok (.aload_n 0, 1) := by decide +kernel
theorem dX3_readRule_65 : decode cX3_readRule 65 = .ok (.getfield 21, 3) := by decide +kernel
theorem dX3_readRule_68 : decode cX3_readRule 68 = .ok (.aload_n 0, 1) := by decide +kernel
theorem dX3_readRule_69 : decode cX3_readRule 69 = .ok (.getfield 12, 3) := by decide +kernel
theorem dX3_readRule_72 : decode cX3_readRule 72 = .ok (.invokevirtual 90, 3) := by decide +kernel
theorem dX3_readRule_75 : decode cX3_readRule 75 = .ok (.invokevirtual 98, 3) := by decide +kernel
theorem dX3_readRule_78 : decode cX3_readRule 78 = .ok (.astore_n 1, 1) := by decide +kernel
theorem dX3_readRule_79 : decode cX3_readRule 79 = .ok (.aload_n 0, 1) := by decide +kernel
theorem dX3_readRule_80 : decode cX3_readRule 80 = .ok (.getfield 12, 3) := by decide +kernel
theorem dX3_readRule_83 : decode cX3_readRule 83 = .ok (.invokevirtual 84, 3) := by decide +kernel
theorem dX3_readRule_86 : decode cX3_readRule 86 = .ok (.aload_n 0, 1) := by decide +kernel
theorem dX3_readRule_87 : decode cX3_readRule 87 = .ok (.aload_n 1, 1) := by decide +kernel
theorem dX3_readRule_88 : decode cX3_readRule 88 = .ok (.invokevirtual 102, 3) := by decide +kernel
theorem dX3_readRule_91 : decode cX3_readRule 91 = .ok (.ifCond .eq 31, 3) := by decide +kernel
theorem dX3_readRule_94 : decode cX3_readRule 94 = .ok (.aload_n 0, 1) := by decide +kernel
theorem dX3_readRule_95 : decode cX3_readRule 95 = .ok (.aload_n 1, 1) := by decide +kernel
theorem dX3_readRule_96 : decode cX3_readRule 96 = .ok (.invokevirtual 106, 3) := by decide +kernel
theorem dX3_readRule_99 : decode cX3_readRule 99 = .ok (.ifCond .eq 23, 3) := by decide +kernel
theorem dX3_readRule_102 : decode cX3_readRule 102 = .ok (.aload_n 0, 1) := by decide +kernel
theorem dX3_readRule_103 : decode cX3_readRule 103 = .ok (.aload_n 1, 1) := by decide +kernel
theorem dX3_readRule_104 : decode cX3_readRule 104 = .ok (.invokevirtual 109, 3) := by decide +kernel
theorem dX3_readRule_107 : decode cX3_readRule 107 = .ok (.ifCond .eq 15, 3) := by decide +kernel
theorem dX3_readRule_110 : decode cX3_readRule 110 = .ok (.aload_n 0, 1) := by decide +kernel
theorem dX3_readRule_111 : decode cX3_readRule 111 = .ok (.aload_n 1, 1) := by decide +kernel
theorem dX3_readRule_112 : decode cX3_readRule 112 = .ok (.invokevirtual 112, 3) := by decide +kernel
theorem dX3_readRule_115 : decode cX3_readRule 115 = .ok (.ifCond .eq 7, 3) := by decide +kernel
theorem dX3_readRule_118 : decode cX3_readRule 118 = .ok (.iconst 1, 1) := by decide +kernel
theorem dX3_readRule_119 : decode cX3_readRule 119 = .ok (.goto 4, 3) := by decide +kernel
theorem dX3_readRule_122 : decode cX3_readRule 122 = .ok (.iconst 0, 1) := by decide +kernel
theorem dX3_readRule_123 : decode cX3_readRule 123 = .ok (.ireturn, 1) := by decide +kernel
theorem dX3_readOnly_0 : decode cX3_readOnly 0 = .ok (.aload_n 0, 1) := by decide +kernel
theorem dX3_readOnly_1 : decode cX3_readOnly 1 = .ok (.getfield 12, 3) := by decide +kernel
theorem dX3_readOnly_4 : decode cX3_readOnly 4 = .ok (.ldc 115, 2) := by decide +kernel
theorem dX3_readOnly_6 : decode cX3_readOnly 6 = .ok (.invokevirtual 48, 3) := by decide +kernel
theorem dX3_readOnly_9 : decode cX3_readOnly 9 = .ok (.ifCond .ne 5, 3) := by decide +kernel
theorem dX3_readOnly_12 : decode cX3_readOnly 12 = .ok (.iconst 1, 1) := by decide +kernel
theorem dX3_readOnly_13 : decode cX3_readOnly 13 = .ok (.ireturn, 1) := by decide +kernel
theorem dX3_readOnly_14 : decode cX3_readOnly 14 = .ok (.aload_n 0, 1) := by decide +kernel
theorem dX3_readOnly_15 : decode cX3_readOnly 15 = .ok (.getfield 12, 3) := by decide +kernel
theorem dX3_readOnly_18 : decode cX3_readOnly 18 = .ok (.invokevirtual 84, 3) := by decide +kernel
theorem dX3_readOnly_21 : decode cX3_readOnly 21 = .ok (.aload_n 0, 1) := by decide +kernel
theorem dX3_readOnly_22 : decode cX3_readOnly 22 = .ok (.aload_n 1, 1) := by decide +kernel
theorem dX3_readOnly_23 : decode cX3_readOnly 23 = .ok (.iconst 0, 1) := by decide +kernel
theorem dX3_readOnly_24 : decode cX3_readOnly 24 = .ok (.invokevirtual 117, 3) := by decide +kernel
theorem dX3_readOnly_27 : decode cX3_readOnly 27 = .ok (.istore_n 2, 1) := by decide +kernel
theorem dX3_readOnly_28 : decode cX3_readOnly 28 = .ok (.iconst 1, 1) := by decide +kernel
theorem dX3_readOnly_29 : decode cX3_readOnly 29 = .ok (.istore_n 3, 1) := by decide +kernel
theorem dX3_readOnly_30 : decode cX3_readOnly 30 = .ok (.iload_n 3, 1) := by decide +kernel
theorem dX3_readOnly_31 : decode cX3_readOnly 31 = .ok (.bipush 8, 2) := by decide +kernel
theorem dX3_readOnly_33 : decode cX3_readOnly 33 = .ok (.if_icmp .gt 31, 3) := by decide +kernel
theorem dX3_readOnly_36 : decode cX3_readOnly 36 = .ok (.iload_n 2, 1) := by decide +kernel
theorem dX3_readOnly_37 : decode cX3_readOnly 37 = .ok (.ifCond .eq 27, 3) := by decide +kernel
theorem dX3_readOnly_40 : decode cX3_readOnly 40 = .ok (.aload_n 0, 1) := by decide +kernel
theorem dX3_readOnly_41 : decode cX3_readOnly 41 = .ok (.getfield 12, 3) := by decide +kernel
theorem dX3_readOnly_44 : decode cX3_readOnly 44 = .ok (.getfield 43, 3) := by decide +kernel
theorem dX3_readOnly_47 : decode cX3_readOnly 47 = .ok (.iconst 2, 1) := by decide +kernel
theorem dX3_readOnly_48 : decode cX3_readOnly 48 = .ok (.if_icmp .ne 16, 3) := by decide +kernel
theorem dX3_readOnly_51 : decode cX3_readOnly 51 = .ok (.aload_n 0, 1) := by decide +kernel
theorem dX3_readOnly_52 : decode cX3_readOnly 52 = .ok (.aload_n 1, 1) := by decide +kernel
theorem dX3_readOnly_53 : decode cX3_readOnly 53 = .ok (.iload_n 3, 1) := by decide +kernel
theorem dX3_readOnly_54 : decode cX3_readOnly 54 = .ok (.invokevirtual 117, 3) := by decide +kernel
theorem dX3_readOnly_57 : decode cX3_readOnly 57 = .ok (.istore_n 2, 1) := by decide +kernel
theorem dX3_readOnly_58 : decode cX3_readOnly 58 = .ok (.iinc 3 1, 3) := by decide +kernel
theorem dX3_readOnly_61 : decode cX3_readOnly 61 = .ok (.goto (-31), 3) := by decide +kernel
theorem dX3_readOnly_64 : decode cX3_readOnly 64 = .ok (.iload_n 2, 1) := by decide +kernel
theorem dX3_readOnly_65 : decode cX3_readOnly 65 = .ok (.ireturn, 1) := by decide +kernel
theorem dX3_readNumberOfOnly_0 : decode cX3_readNumberOfOnly 0 = .ok (.aload_n 0, 1) := by decide +kernel
theorem dX3_readNumberOfOnly_1 : decode cX3_readNumberOfOnly 1 = .ok (.iconst 1, 1) := by decide +kernel
theorem dX3_readNumberOfOnly_2 : decode cX3_readNumberOfOnly 2 = .ok (.bipush 40, 2) := by decide +kernel
theorem dX3_readNumberOfOnly_4 : decode cX3_readNumberOfOnly 4 = .ok (.invokevirtual 121, 3) := by decide +kernel
theorem dX3_readNumberOfOnly_7 : decode cX3_readNumberOfOnly 7 = .ok (.ifCond .ne 5, 3) := by decide +kernel
theorem dX3_readNumberOfOnly_10 : decode cX3_readNumberOfOnly 10 = .ok (.iconst 0, 1) := by decide +kernel
theorem dX3_readNumberOfOnly_11 : decode cX3_readNumberOfOnly 11 = .ok (.ireturn, 1) := by decide +kernel
theorem dX3_readNumberOfOnly_12 : decode cX3_readNumberOfOnly 12 = .ok (.aload_n 0, 1) := by decide +kernel
theorem dX3_readNumberOfOnly_13 : decode cX3_readNumberOfOnly 13 = .ok (.getfield 12, 3) := by decide +kernel
theorem dX3_readNumberOfOnly_16 : decode cX3_readNumberOfOnly 16 = .ok (.getfield 125, 3) := by decide +kernel
theorem dX3_readNumberOfOnly_19 : decode cX3_readNumberOfOnly 19 = .ok (.istore_n 3, 1) := by decide +kernel
theorem dX3_readNumberOfOnly_20 : decode cX3_readNumberOfOnly 20 = .ok (.aload_n 1, 1) := by decide +kernel
theorem dX3_readNumberOfOnly_21 : decode cX3_readNumberOfOnly 21 = .ok (.iload_n 3, 1) := by decide +kernel
theorem dX3_readNumberOfOnly_22 : decode cX3_readNumberOfOnly 22 = .ok (.invokevirtual 128, 3) := by decide +kernel
theorem dX3_readNumberOfOnly_25 : decode cX3_readNumberOfOnly 25 = .ok (.ifCond .eq 9, 3) := by decide +kernel
theorem dX3_readNumberOfOnly_28 : decode cX3_readNumberOfOnly 28 = .ok (.aload_n 0, 1) := by decide +kernel
theorem dX3_readNumberOfOnly_29 : decode cX3_readNumberOfOnly 29 = .ok (.iconst 4, 1) := by decide +kernel
theorem dX3_readNumberOfOnly_30 : decode cX3_readNumberOfOnly 30 = .ok (.invokevirtual 71, 3) := by decide +kernel
theorem dX3_readNumberOfOnly_33 : decode cX3_readNumberOfOnly 33 = .ok (.ireturn, 1) := by decide +kernel
theorem dX3_readNumberOfOnly_34 : decode cX3_readNumberOfOnly 34 = .ok (.iload_n 2, 1) := by decide +kernel
theorem dX3_readNumberOfOnly_35 : decode cX3_readNumberOfOnly 35 = .ok (.bipush 8, 2) := by decide +kernel
theorem dX3_readNumberOfOnly_37 : decode cX3_readNumberOfOnly 37 = .ok (.if_icmp .lt 9, 3) := by decide +kernel
theorem dX3_readNumberOfOnly_40 : decode cX3_readNumberOfOnly 40 = .ok (.aload_n 0, 1) := by decide +kernel
theorem dX3_readNumberOfOnly_41 : decode cX3_readNumberOfOnly 41 = .ok (.iconst 5, 1) := by decide +kernel
theorem dX3_readNumberOfOnly_42 : decode cX3_readNumberOfOnly 42 = .ok (.invokevirtual 71, 3) := by decide +kernel
theorem dX3_readNumberOfOnly_45 : decode cX3_readNumberOfOnly 45 = .ok (.ireturn, 1) := by decide +kernel
theorem dX3_readNumberOfOnly_46 : decode cX3_readNumberOfOnly 46 = .ok (.aload_n 1, 1) := by decide +kernel
theorem dX3_readNumberOfOnly_47 : decode cX3_readNumberOfOnly 47 = .ok (.iload_n 3, 1) := by decide +kernel
theorem dX3_readNumberOfOnly_48 : decode cX3_readNumberOfOnly 48 = .ok (.invokevirtual 133, 3) := by decide +kernel
theorem dX3_readNumberOfOnly_51 : decode cX3_readNumberOfOnly 51 = .ok (.aload_n 0, 1) := by decide +kernel
theorem dX3_readNumberOfOnly_52 : decode cX3_readNumberOfOnly 52 = .ok (.getfield 12, 3) := by decide +kernel
theorem dX3_readNumberOfOnly_55 : decode cX3_readNumberOfOnly 55 = .ok (.invokevirtual 84, 3) := by decide +kernel
theorem dX3_readNumberOfOnly_58 : decode cX3_readNumberOfOnly 58 = .ok (.iconst 1, 1) := by decide +kernel
theorem dX3_readNumberOfOnly_59 : decode cX3_readNumberOfOnly 59 = .ok (.ireturn, 1) := by decide +kernel
theorem dX3_readSlack_0 : decode cX3_readSlack 0 = .ok (.aload_n 0, 1) := by decide +kernel
theorem dX3_readSlack_1 : decode cX3_readSlack 1 = .ok (.getfield 12, 3) := by decide +kernel
theorem dX3_readSlack_4 : decode cX3_readSlack 4 = .ok (.ldc 137, 2) := by decide +kernel
theorem dX3_readSlack_6 : decode cX3_readSlack 6 = .ok (.invokevirtual 48, 3) := by decide +kernel
theorem dX3_readSlack_9 : decode cX3_readSlack 9 = .ok (.ifCond .ne 5, 3) := by decide +kernel
theorem dX3_readSlack_12 : decode cX3_readSlack 12 = .ok (.iconst 1, 1) := by decide +kernel
theorem dX3_readSlack_13 : decode cX3_readSlack 13 = .ok (.ireturn, 1) := by decide +kernel
theorem dX3_readSlack_14 : decode cX3_readSlack 14 = .ok (.aload_n 0, 1) := by decide +kernel
theorem dX3_readSlack_15 : decode cX3_readSlack 15 = .ok (.getfield 12, 3) := by decide +kernel
theorem dX3_readSlack_18 : decode cX3_readSlack 18 = .ok (.invokevirtual 84, 3) := by decide +kernel
theorem dX3_readSlack_21 : decode cX3_readSlack 21 = .ok (.aload_n 1, 1) := by decide +kernel
theorem dX3_readSlack_22 : decode cX3_readSlack 22 = .ok (.aload_n 0, 1) := by decide +kernel
theorem dX3_readSlack_23 : decode cX3_readSlack 23 = .ok (.iconst 0, 1) := by decide +kernel
theorem dX3_readSlack_24 : decode cX3_readSlack 24 = .ok (.iconst 5, 1) := by decide +kernel
theorem dX3_readSlack_25 : decode cX3_readSlack 25 = .ok (.invokevirtual 139, 3) := by decide +kernel
theorem dX3_readSlack_28 : decode cX3_readSlack 28 = .ok (.putfield 143, 3) := by decide +kernel
theorem dX3_readSlack_31 : decode cX3_readSlack 31 = .ok (.aload_n 0, 1) := by decide +kernel
theorem dX3_readSlack_32 : decode cX3_readSlack 32 = .ok (.getfield 29, 3) := by decide +kernel
theorem dX3_readSlack_35 : decode cX3_readSlack 35 = .ok (.ifCond .ne 7, 3) := by decide +kernel
theorem dX3_readSlack_38 : decode cX3_readSlack 38 = .ok (.iconst 1, 1) := by decide +kernel
theorem dX3_readSlack_39 : decode cX3_readSlack 39 = .ok (.goto 4, 3) := by decide +kernel
theorem dX3_readSlack_42 : decode cX3_readSlack 42 = .ok (.iconst 0, 1) := by decide +kernel
theorem dX3_readSlack_43 : decode cX3_readSlack 43 = .ok (.ireturn, 1) := by decide +kernel
theorem dX3_readMost_0 : decode cX3_readMost 0 = .ok (.aload_n 0, 1) := by decide +kernel
theorem dX3_readMost_1 : decode cX3_readMost 1 = .ok (.getfield 12, 3) := by decide +kernel
theorem dX3_readMost_4 : decode cX3_readMost 4 = .ok (.ldc 145, 2) := by decide +kernel
theorem dX3_readMost_6 : decode cX3_readMost 6 = .ok (.invokevirtual 48, 3) := by decide +kernel
theorem dX3_readMost_9 : decode cX3_readMost 9 = .ok (.ifCond .ne 5, 3) := by decide +kernel
theorem dX3_readMost_12 : decode cX3_readMost 12 = .ok (.iconst 1, 1) := by decide +kernel
theorem dX3_readMost_13 : decode cX3_readMost 13 = .ok (.ireturn, 1) := by decide +kernel
theorem dX3_readMost_14 : decode cX3_readMost 14 = .ok (.aload_n 0, 1) := by decide +kernel
theorem dX3_readMost_15 : decode cX3_readMost 15 = .ok (.getfield 12, 3) := by decide +kernel
theorem dX3_readMost_18 : decode cX3_readMost 18 = .ok (.invokevirtual 84, 3) := by decide +kernel
theorem dX3_readMost_21 : decode cX3_readMost 21 = .ok (.aload_n 1, 1) := by decide +kernel
theorem dX3_readMost_22 : decode cX3_readMost 22 = .ok (.aload_n 0, 1) := by decide +kernel
theorem dX3_readMost_23 : decode cX3_readMost 23 = .ok (.iconst 1, 1) := by decide +kernel
theorem dX3_readMost_24 : decode cX3_readMost 24 = .ok (.bipush 40, 2) := by decide +kernel
theorem dX3_readMost_26 : decode cX3_readMost 26 = .ok (.invokevirtual 139, 3) := by decide +kernel
theorem dX3_readMost_29 : decode cX3_readMost 29 = .ok (.putfield 147, 3) := by decide +kernel
theorem dX3_readMost_32 : decode cX3_readMost 32 = .ok (.aload_n 0, 1) := by decide +kernel
theorem dX3_readMost_33 : decode cX3_readMost 33 = .ok (.getfield 29, 3) := by decide +kernel
theorem dX3_readMost_36 : decode cX3_readMost 36 = .ok (.ifCond .ne 7, 3) := by decide +kernel
theorem dX3_readMost_39 : decode cX3_readMost 39 = .ok (.iconst 1, 1) := by decide +kernel
theorem dX3_readMost_40 : decode cX3_readMost 40 = .ok (.goto 4, 3) := by decide +kernel
theorem dX3_readMost_43 : decode cX3_readMost 43 = .ok (.iconst 0, 1) := by decide +kernel
theorem dX3_readMost_44 : decode cX3_readMost 44 = .ok (.ireturn, 1) := by decide +kernel
theorem dX3_readBars_0 : decode cX3_readBars 0 = .ok (.iconst 0, 1) := by decide +kernel
theorem dX3_readBars_1 : decode cX3_readBars 1 = .ok (.istore_n 2, 1) := by decide +kernel
theorem dX3_readBars_2 : decode cX3_readBars 2 = .ok (.iload_n 2, 1) := by decide +kernel
theorem dX3_readBars_3 : decode cX3_readBars 3 = .ok (.iconst 4, 1) := by decide +kernel
theorem dX3_readBars_4 : decode cX3_readBars 4 = .ok (.if_icmp .gt 124, 3) := by decide +kernel
theorem dX3_readBars_7 : decode cX3_readBars 7 = .ok (.aload_n 0, 1) := by decide +kernel
theorem dX3_readBars_8 : decode cX3_readBars 8 = .ok (.getfield 12, 3) := by decide +kernel
theorem dX3_readBars_11 : decode cX3_readBars 11 = .ok (.ldc 149, 2) := by decide +kernel
theorem dX3_readBars_13 : decode cX3_readBars 13 = .ok (.invokevirtual 48, 3) := by decide +kernel
theorem dX3_readBars_16 : decode cX3_readBars 16 = .ok (.ifCond .eq 112, 3) := by decide +kernel
theorem dX3_readBars_19 : decode cX3_readBars 19 = .ok (.aload_n 1, 1) := by decide +kernel
theorem dX3_readBars_20 : decode cX3_readBars 20 = .ok (.getfield 151, 3) := by decide +kernel
theorem dX3_readBars_23 : decode cX3_readBars 23 = .ok (.iconst 4, 1) := by decide +kernel
theorem dX3_readBars_24 : decode cX3_readBars 24 = .ok (.if_icmp .lt 9, 3) := by decide +kernel
theorem dX3_readBars_27 : decode cX3_readBars 27 = .ok (.aload_n 0, 1) := by decide +kernel
theorem dX3_readBars_28 : decode cX3_readBars 28 = .ok (.iconst 5, 1) := by decide +kernel
theorem dX3_readBars_29 : decode cX3_readBars 29 = .ok (.invokevirtual 71, 3) := by decide +kernel
theorem dX3_readBars_32 : decode cX3_readBars 32 = .ok (.ireturn, 1) := by decide +kernel
theorem dX3_readBars_33 : decode cX3_readBars 33 = .ok (.aload_n 0, 1) := by decide +kernel
theorem dX3_readBars_34 : decode cX3_readBars 34 = .ok (.getfield 12, 3) := by decide +kernel
theorem dX3_readBars_37 : decode cX3_readBars 37 = .ok (.invokevirtual 84, 3) := by decide +kernel
theorem dX3_readBars_40 : decode cX3_readBars 40 = .ok (.aload_n 0, 1) := by decide +kernel
theorem dX3_readBars_41 : decode cX3_readBars 41 = .ok (.iconst 0, 1) := by decide +kernel
theorem dX3_readBars_42 : decode cX3_readBars 42 = .ok (.bipush 40, 2) := by decide +kernel
theorem dX3_readBars_44 : decode cX3_readBars 44 = .ok (.invokevirtual 139, 3) := by decide +kernel
theorem dX3_readBars_47 : decode cX3_readBars 47 = .ok (.istore_n 3, 1) := by decide +kernel
theorem dX3_readBars_48 : decode cX3_readBars 48 = .ok (.aload_n 0, 1) := by decide +kernel
theorem dX3_readBars_49 : decode cX3_readBars 49 = .ok (.getfield 29, 3) := by decide +kernel
theorem dX3_readBars_52 : decode cX3_readBars 52 = .ok (.ifCond .ne 13, 3) := by decide +kernel
theorem dX3_readBars_55 : decode cX3_readBars 55 = .ok (.aload_n 0, 1) := by decide +kernel
theorem dX3_readBars_56 : decode cX3_readBars 56 = .ok (.iconst 0, 1) := by decide +kernel
theorem dX3_readBars_57 : decode cX3_readBars 57 = .ok (.bipush 40, 2) := by decide +kernel
theorem dX3_readBars_59 : decode cX3_readBars 59 = .ok (.invokevirtual 121, 3) := by decide +kernel
theorem dX3_readBars_62 : decode cX3_readBars 62 = .ok (.ifCond .ne 5, 3) := by decide +kernel
theorem dX3_readBars_65 : decode cX3_readBars 65 = .ok (.iconst 0, 1) := by decide +kernel
theorem dX3_readBars_66 : decode cX3_readBars 66 = .ok (.ireturn, 1) := by decide +kernel
theorem dX3_readBars_67 : decode cX3_readBars 67 = .ok (.aload_n 0, 1) := by decide +kernel
theorem dX3_readBars_68 : decode cX3_readBars 68 = .ok (.getfield 12, 3) := by decide +kernel
theorem dX3_readBars_71 : decode cX3_readBars 71 = .ok (.getfield 125, 3) := by decide +kernel
theorem dX3_readBars_74 : decode cX3_readBars 74 = .ok (.istore 4, 2) := by decide +kernel
theorem dX3_readBars_76 : decode cX3_readBars 76 = .ok (.iload_n 3, 1) := by decide +kernel
theorem dX3_readBars_77 : decode cX3_readBars 77 = .ok (.ifCond .ne 14, 3) := by decide +kernel
theorem dX3_readBars_80 : decode cX3_readBars 80 = .ok (.iload 4, 2) := by decide +kernel
theorem dX3_readBars_82 : decode cX3_readBars 82 = .ok (.ifCond .ne 9, 3) := by decide +kernel
theorem dX3_readBars_85 : decode cX3_readBars 85 = .ok (.aload_n 0, 1) := by decide +kernel
theorem dX3_readBars_86 : decode cX3_readBars 86 = .ok (.iconst 2, 1) := by decide +kernel
theorem dX3_readBars_87 : decode cX3_readBars 87 = .ok (.invokevirtual 71, 3) := by decide +kernel
theorem dX3_readBars_90 : decode cX3_readBars 90 = .ok (.ireturn, 1) := by decide +kernel
theorem dX3_readBars_91 : decode cX3_readBars 91 = .ok (.aload_n 1, 1) := by decide +kernel
theorem dX3_readBars_92 : decode cX3_readBars 92 = .ok (.iload_n 3, 1) := by decide +kernel
theorem dX3_readBars_93 : decode cX3_readBars 93 = .ok (.iload 4, 2) := by decide +kernel
theorem dX3_readBars_95 : decode cX3_readBars 95 = .ok (.invokevirtual 154, 3) := by decide +kernel
theorem dX3_readBars_98 : decode cX3_readBars 98 = .ok (.ifCond .eq 9, 3) := by decide +kernel
theorem dX3_readBars_101 : decode cX3_readBars 101 = .ok (.aload_n 0, 1) := by decide +kernel
theorem dX3_readBars_102 : decode cX3_readBars 102 = .ok (.iconst 4, 1) := by decide +kernel
theorem dX3_readBars_103 : decode cX3_readBars 103 = .ok (.invokevirtual 71, 3) := by decide +kernel
theorem dX3_readBars_106 : decode cX3_readBars 106 = .ok (.ireturn, 1) := by decide +kernel
theorem dX3_readBars_107 : decode cX3_readBars 107 = .ok (.aload_n 1, 1) := by decide +kernel
theorem dX3_readBars_108 : decode cX3_readBars 108 = .ok (.iload_n 3, 1) := by decide +kernel
theorem dX3_readBars_109 : decode cX3_readBars 109 = .ok (.iload 4, 2) := by decide +kernel
theorem dX3_readBars_111 : decode cX3_readBars 111 = .ok (.iconst 1, 1) := by decide +kernel
theorem dX3_readBars_112 : decode cX3_readBars 112 = .ok (.invokevirtual 157, 3) := by decide +kernel
theorem dX3_readBars_115 : decode cX3_readBars 115 = .ok (.aload_n 0, 1) := by decide +kernel
theorem dX3_readBars_116 : decode cX3_readBars 116 = .ok (.getfield 12, 3) := by decide +kernel
theorem dX3_readBars_119 : decode cX3_readBars 119 = .ok (.invokevirtual 84, 3) := by decide +kernel
theorem dX3_readBars_122 : decode cX3_readBars 122 = .ok (.iinc 2 1, 3) := by decide +kernel
theorem dX3_readBars_125 : decode cX3_readBars 125 = .ok (.goto (-123), 3) := by decide +kernel
theorem dX3_readBars_128 : decode cX3_readBars 128 = .ok (.iconst 1, 1) := by decide +kernel
theorem dX3_readBars_129 : decode cX3_readBars 129 = .ok (.ireturn, 1) := by decide +kernel
theorem dX3_readBoard_0 : decode cX3_readBoard 0 = .ok (.aload_n 0, 1) := by decide +kernel
theorem dX3_readBoard_1 : decode cX3_readBoard 1 = .ok (.getfield 21, 3) := by decide +kernel
theorem dX3_readBoard_4 : decode cX3_readBoard 4 = .ok (.getfield 161, 3) := by decide +kernel
theorem dX3_readBoard_7 : decode cX3_readBoard 7 = .ok (.getfield 165, 3) := by decide +kernel
theorem dX3_readBoard_10 : decode cX3_readBoard 10 = .ok (.iconst 4, 1) := by decide +kernel
theorem dX3_readBoard_11 : decode cX3_readBoard 11 = .ok (.if_icmp .lt 9, 3) := by decide +kernel
theorem dX3_readBoard_14 : decode cX3_readBoard 14 = .ok (.aload_n 0, 1) := by decide +kernel
theorem dX3_readBoard_15 : decode cX3_readBoard 15 = .ok (.iconst 5, 1) := by decide +kernel
theorem dX3_readBoard_16 : decode cX3_readBoard 16 = .ok (.invokevirtual 71, 3) := by decide +kernel
theorem dX3_readBoard_19 : decode cX3_readBoard 19 = .ok (.ireturn, 1) := by decide +kernel
theorem dX3_readBoard_20 : decode cX3_readBoard 20 = .ok (.aload_n 0, 1) := by decide +kernel
theorem dX3_readBoard_21 : decode cX3_readBoard 21 = .ok (.getfield 12, 3) := by decide +kernel
theorem dX3_readBoard_24 : decode cX3_readBoard 24 = .ok (.invokevirtual 84, 3) := by decide +kernel
theorem dX3_readBoard_27 : decode cX3_readBoard 27 = .ok (.aload_n 0, 1) := by decide +kernel
theorem dX3_readBoard_28 : decode cX3_readBoard 28 = .ok (.getfield 12, 3) := by decide +kernel
theorem dX3_readBoard_31 : decode cX3_readBoard 31 = .ok (.invokevirtual 87, 3) := by decide +kernel
theorem dX3_readBoard_34 : decode cX3_readBoard 34 = .ok (.ifCond .ne 9, 3) := by decide +kernel
theorem dX3_readBoard_37 : decode cX3_readBoard 37 = .ok (.aload_n 0, 1) := by decide +kernel
theorem dX3_readBoard_38 : decode cX3_readBoard 38 = .ok (.iconst 1, 1) := by decide +kernel
theorem dX3_readBoard_39 : decode cX3_readBoard 39 = .ok (.invokevirtual 71, 3) := by decide +kernel
theorem dX3_readBoard_42 : decode cX3_readBoard 42 = .ok (.ireturn, 1) := by decide +kernel
theorem dX3_readBoard_43 : decode cX3_readBoard 43 = .ok (.aload_n 0, 1) := by decide +kernel
theorem dX3_readBoard_44 : decode cX3_readBoard 44 = .ok (.getfield 21, 3) := by decide +kernel
theorem dX3_readBoard_47 : decode cX3_readBoard 47 = .ok (.aload_n 0, 1) := by decide +kernel
theorem dX3_readBoard_48 : decode cX3_readBoard 48 = .ok (.getfield 12, 3) := by decide +kernel
theorem dX3_readBoard_51 : decode cX3_readBoard 51 = .ok (.invokevirtual 90, 3) := by decide +kernel
theorem dX3_readBoard_54 : decode cX3_readBoard 54 = .ok (.invokevirtual 94, 3) := by decide +kernel
theorem dX3_readBoard_57 : decode cX3_readBoard 57 = .ok (.istore_n 1, 1) := by decide +kernel
theorem dX3_readBoard_58 : decode cX3_readBoard 58 = .ok (.iload_n 1, 1) := by decide +kernel
theorem dX3_readBoard_59 : decode cX3_readBoard 59 = .ok (.iconst (-1), 1) := by decide +kernel
theorem dX3_readBoard_60 : decode cX3_readBoard 60 = .ok (.if_icmp .ne 9, 3) := by decide +kernel
theorem dX3_readBoard_63 : decode cX3_readBoard 63 = .ok (.aload_n 0, 1) := by decide +kernel
theorem dX3_readBoard_64 : decode cX3_readBoard 64 = .ok (.iconst 3, 1) := by decide +kernel
theorem dX3_readBoard_65 : decode cX3_readBoard 65 = .ok (.invokevirtual 71, 3) := by decide +kernel
theorem dX3_readBoard_68 : decode cX3_readBoard 68 = .ok (.ireturn, 1) := by decide +kernel
theorem dX3_readBoard_69 : decode cX3_readBoard 69 = .ok (.aload_n 0, 1) := by decide +kernel
theorem dX3_readBoard_70 : decode cX3_readBoard 70 = .ok (.getfield 12, 3) := by decide +kernel
theorem dX3_readBoard_73 : decode cX3_readBoard 73 = .ok (.invokevirtual 84, 3) := by decide +kernel
theorem dX3_readBoard_76 : decode cX3_readBoard 76 = .ok (.aload_n 0, 1) := by decide +kernel
theorem dX3_readBoard_77 : decode cX3_readBoard 77 = .ok (.iconst 0, 1) := by decide +kernel
theorem dX3_readBoard_78 : decode cX3_readBoard 78 = .ok (.bipush 40, 2) := by decide +kernel
theorem dX3_readBoard_80 : decode cX3_readBoard 80 = .ok (.invokevirtual 139, 3) := by decide +kernel
theorem dX3_readBoard_83 : decode cX3_readBoard 83 = .ok (.istore_n 2, 1) := by decide +kernel
theorem dX3_readBoard_84 : decode cX3_readBoard 84 = .ok (.aload_n 0, 1) := by decide +kernel
theorem dX3_readBoard_85 : decode cX3_readBoard 85 = .ok (.iconst 0, 1) := by decide +kernel
theorem dX3_readBoard_86 : decode cX3_readBoard 86 = .ok (.bipush 40, 2) := by decide +kernel
theorem dX3_readBoard_88 : decode cX3_readBoard 88 = .ok (.invokevirtual 139, 3) := by decide +kernel
theorem dX3_readBoard_91 : decode cX3_readBoard 91 = .ok (.istore_n 3, 1) := by decide +kernel
theorem dX3_readBoard_92 : decode cX3_readBoard 92 = .ok (.aload_n 0, 1) := by decide +kernel
theorem dX3_readBoard_93 : decode cX3_readBoard 93 = .ok (.getfield 21, 3) := by decide +kernel
theorem dX3_readBoard_96 : decode cX3_readBoard 96 = .ok (.getfield 161, 3) := by decide +kernel
theorem dX3_readBoard_99 : decode cX3_readBoard 99 = .ok (.iload_n 1, 1) := by decide +kernel
theorem dX3_readBoard_100 : decode cX3_readBoard 100 = .ok (.iload_n 2, 1) := by decide +kernel
theorem dX3_readBoard_101 : decode cX3_readBoard 101 = .ok (.iload_n 3, 1) := by decide +kernel
theorem dX3_readBoard_102 : decode cX3_readBoard 102 = .ok (.invokevirtual 170, 3) := by decide +kernel
theorem dX3_readBoard_105 : decode cX3_readBoard 105 = .ok (.aload_n 0, 1) := by decide +kernel
theorem dX3_readBoard_106 : decode cX3_readBoard 106 = .ok (.getfield 29, 3) := by decide +kernel
theorem dX3_readBoard_109 : decode cX3_readBoard 109 = .ok (.ifCond .ne 7, 3) := by decide +kernel
theorem dX3_readBoard_112 : decode cX3_readBoard 112 = .ok (.iconst 1, 1) := by decide +kernel
theorem dX3_readBoard_113 : decode cX3_readBoard 113 = .ok (.goto 4, 3) := by decide +kernel
theorem dX3_readBoard_116 : decode cX3_readBoard 116 = .ok (.iconst 0, 1) := by decide +kernel
theorem dX3_readBoard_117 : decode cX3_readBoard 117 = .ok (.ireturn, 1) := by decide +kernel
theorem dX3_readStick_0 : decode cX3_readStick 0 = .ok (.aload_n 0, 1) := by decide +kernel
theorem dX3_readStick_1 : decode cX3_readStick 1 = .ok (.getfield 21, 3) := by decide +kernel
theorem dX3_readStick_4 : decode cX3_readStick 4 = .ok (.getfield 161, 3) := by decide +kernel
theorem dX3_readStick_7 : decode cX3_readStick 7 = .ok (.getfield 174, 3) := by decide +kernel
theorem dX3_readStick_10 : decode cX3_readStick 10 = .ok (.iconst 4, 1) := by decide +kernel
theorem dX3_readStick_11 : decode cX3_readStick 11 = .ok (.if_icmp .lt 9, 3) := by decide +kernel
theorem dX3_readStick_14 : decode cX3_readStick 14 = .ok (.aload_n 0, 1) := by decide +kernel
theorem dX3_readStick_15 : decode cX3_readStick 15 = .ok (.iconst 5, 1) := by decide +kernel
theorem dX3_readStick_16 : decode cX3_readStick 16 = .ok (.invokevirtual 71, 3) := by decide +kernel
theorem dX3_readStick_19 : decode cX3_readStick 19 = .ok (.ireturn, 1) := by decide +kernel
theorem dX3_readStick_20 : decode cX3_readStick 20 = .ok (.aload_n 0, 1) := by decide +kernel
theorem dX3_readStick_21 : decode cX3_readStick 21 = .ok (.getfield 12, 3) := by decide +kernel
theorem dX3_readStick_24 : decode cX3_readStick 24 = .ok (.invokevirtual 84, 3) := by decide +kernel
theorem dX3_readStick_27 : decode cX3_readStick 27 = .ok (.aload_n 0, 1) := by decide +kernel
theorem dX3_readStick_28 : decode cX3_readStick 28 = .ok (.iconst 0, 1) := by decide +kernel
theorem dX3_readStick_29 : decode cX3_readStick 29 = .ok (.bipush 60, 2) := by decide +kernel
theorem dX3_readStick_31 : decode cX3_readStick 31 = .ok (.invokevirtual 139, 3) := by decide +kernel
theorem dX3_readStick_34 : decode cX3_readStick 34 = .ok (.istore_n 1, 1) := by decide +kernel
theorem dX3_readStick_35 : decode cX3_readStick 35 = .ok (.aload_n 0, 1) := by decide +kernel
theorem dX3_readStick_36 : decode cX3_readStick 36 = .ok (.iconst 1, 1) := by decide +kernel
theorem dX3_readStick_37 : decode cX3_readStick 37 = .ok (.bipush 9, 2) := by decide +kernel
theorem dX3_readStick_39 : decode cX3_readStick 39 = .ok (.invokevirtual 139, 3) := by decide +kernel
theorem dX3_readStick_42 : decode cX3_readStick 42 = .ok (.istore_n 2, 1) := by decide +kernel
theorem dX3_readStick_43 : decode cX3_readStick 43 = .ok (.aload_n 0, 1) := by decide +kernel
theorem dX3_readStick_44 : decode cX3_readStick 44 = .ok (.getfield 21, 3) := by decide +kernel
theorem dX3_readStick_47 : decode cX3_readStick 47 = .ok (.getfield 161, 3) := by decide +kernel
theorem dX3_readStick_50 : decode cX3_readStick 50 = .ok (.iload_n 1, 1) := by decide +kernel
theorem dX3_readStick_51 : decode cX3_readStick 51 = .ok (.iload_n 2, 1) := by decide +kernel
theorem dX3_readStick_52 : decode cX3_readStick 52 = .ok (.invokevirtual 177, 3) := by decide +kernel
theorem dX3_readStick_55 : decode cX3_readStick 55 = .ok (.aload_n 0, 1) := by decide +kernel
theorem dX3_readStick_56 : decode cX3_readStick 56 = .ok (.getfield 29, 3) := by decide +kernel
theorem dX3_readStick_59 : decode cX3_readStick 59 = .ok (.ifCond .ne 7, 3) := by decide +kernel
theorem dX3_readStick_62 : decode cX3_readStick 62 = .ok (.iconst 1, 1) := by decide +kernel
theorem dX3_readStick_63 : decode cX3_readStick 63 = .ok (.goto 4, 3) := by decide +kernel
theorem dX3_readStick_66 : decode cX3_readStick 66 = .ok (.iconst 0, 1) := by decide +kernel
theorem dX3_readStick_67 : decode cX3_readStick 67 = .ok (.ireturn, 1) := by decide +kernel
theorem dX3_readFirst_0 : decode cX3_readFirst 0 = .ok (.aload_n 0, 1) := by decide +kernel
theorem dX3_readFirst_1 : decode cX3_readFirst 1 = .ok (.getfield 25, 3) := by decide +kernel
theorem dX3_readFirst_4 : decode cX3_readFirst 4 = .ok (.ifCond .eq 9, 3) := by decide +kernel
theorem dX3_readFirst_7 : decode cX3_readFirst 7 = .ok (.aload_n 0, 1) := by decide +kernel
theorem dX3_readFirst_8 : decode cX3_readFirst 8 = .ok (.iconst 4, 1) := by decide +kernel
theorem dX3_readFirst_9 : decode cX3_readFirst 9 = .ok (.invokevirtual 71, 3) := by decide +kernel
theorem dX3_readFirst_12 : decode cX3_readFirst 12 = .ok (.ireturn, 1) := by decide +kernel
theorem dX3_readFirst_13 : decode cX3_readFirst 13 = .ok (.aload_n 0, 1) := by decide +kernel
theorem dX3_readFirst_14 : decode cX3_readFirst 14 = .ok (.iconst 1, 1) := by decide +kernel
theorem dX3_readFirst_15 : decode cX3_readFirst 15 = .ok (.putfield 25, 3) := by decide +kernel
theorem dX3_readFirst_18 : decode cX3_readFirst 18 = .ok (.aload_n 0, 1) := by decide +kernel
theorem dX3_readFirst_19 : decode cX3_readFirst 19 = .ok (.getfield 12, 3) := by decide +kernel
theorem dX3_readFirst_22 : decode cX3_readFirst 22 = .ok (.invokevirtual 84, 3) := by decide +kernel
theorem dX3_readFirst_25 : decode cX3_readFirst 25 = .ok (.aload_n 0, 1) := by decide +kernel
theorem dX3_readFirst_26 : decode cX3_readFirst 26 = .ok (.getfield 21, 3) := by decide +kernel
theorem dX3_readFirst_29 : decode cX3_readFirst 29 = .ok (.aload_n 0, 1) := by decide +kernel
theorem dX3_readFirst_30 : decode cX3_readFirst 30 = .ok (.iconst 0, 1) := by decide +kernel
theorem dX3_readFirst_31 : decode cX3_readFirst 31 = .ok (.iconst 1, 1) := by decide +kernel
theorem dX3_readFirst_32 : decode cX3_readFirst 32 = .ok (.invokevirtual 139, 3) := by decide +kernel
theorem dX3_readFirst_35 : decode cX3_readFirst 35 = .ok (.putfield 181, 3) := by decide +kernel
theorem dX3_readFirst_38 : decode cX3_readFirst 38 = .ok (.aload_n 0, 1) := by decide +kernel
theorem dX3_readFirst_39 : decode cX3_readFirst 39 = .ok (.getfield 29, 3) := by decide +kernel
theorem dX3_readFirst_42 : decode cX3_readFirst 42 = .ok (.ifCond .ne 7, 3) := by decide +kernel
theorem dX3_readFirst_45 : decode cX3_readFirst 45 = .ok (.iconst 1, 1) := by decide +kernel
theorem dX3_readFirst_46 : decode cX3_readFirst 46 = .ok (.goto 4, 3) := by decide +kernel
theorem dX3_readFirst_49 : decode cX3_readFirst 49 = .ok (.iconst 0, 1) := by decide +kernel
theorem dX3_readFirst_50 : decode cX3_readFirst 50 = .ok (.ireturn, 1) := by decide +kernel
theorem dX3_isNumber_0 : decode cX3_isNumber 0 = .ok (.aload_n 0, 1) := by decide +kernel
theorem dX3_isNumber_1 : decode cX3_isNumber 1 = .ok (.getfield 12, 3) := by decide +kernel
theorem dX3_isNumber_4 : decode cX3_isNumber 4 = .ok (.getfield 43, 3) := by decide +kernel
theorem dX3_isNumber_7 : decode cX3_isNumber 7 = .ok (.iconst 2, 1) := by decide +kernel
theorem dX3_isNumber_8 : decode cX3_isNumber 8 = .ok (.if_icmp .eq 9, 3) := by decide +kernel
theorem dX3_isNumber_11 : decode cX3_isNumber 11 = .ok (.aload_n 0, 1) := by decide +kernel
theorem dX3_isNumber_12 : decode cX3_isNumber 12 = .ok (.iconst 1, 1) := by decide +kernel
theorem dX3_isNumber_13 : decode cX3_isNumber 13 = .ok (.invokevirtual 71, 3) := by decide +kernel
theorem dX3_isNumber_16 : decode cX3_isNumber 16 = .ok (.ireturn, 1) := by decide +kernel
theorem dX3_isNumber_17 : decode cX3_isNumber 17 = .ok (.aload_n 0, 1) := by decide +kernel
theorem dX3_isNumber_18 : decode cX3_isNumber 18 = .ok (.getfield 12, 3) := by decide +kernel
theorem dX3_isNumber_21 : decode cX3_isNumber 21 = .ok (.getfield 125, 3) := by decide +kernel
theorem dX3_isNumber_24 : decode cX3_isNumber 24 = .ok (.istore_n 3, 1) := by decide +kernel
theorem dX3_isNumber_25 : decode cX3_isNumber 25 = .ok (.iload_n 3, 1) := by decide +kernel
theorem dX3_isNumber_26 : decode cX3_isNumber 26 = .ok (.iload_n 1, 1) := by decide +kernel
theorem dX3_isNumber_27 : decode cX3_isNumber 27 = .ok (.if_icmp .lt 8, 3) := by decide +kernel
theorem dX3_isNumber_30 : decode cX3_isNumber 30 = .ok (.iload_n 3, 1) := by decide +kernel
theorem dX3_isNumber_31 : decode cX3_isNumber 31 = .ok (.iload_n 2, 1) := by decide +kernel
theorem dX3_isNumber_32 : decode cX3_isNumber 32 = .ok (.if_icmp .le 9, 3) := by decide +kernel
theorem dX3_isNumber_35 : decode cX3_isNumber 35 = .ok (.aload_n 0, 1) := by decide +kernel
theorem dX3_isNumber_36 : decode cX3_isNumber 36 = .ok (.iconst 2, 1) := by decide +kernel
theorem dX3_isNumber_37 : decode cX3_isNumber 37 = .ok (.invokevirtual 71, 3) := by decide +kernel
theorem dX3_isNumber_40 : decode cX3_isNumber 40 = .ok (.ireturn, 1) := by decide +kernel
theorem dX3_isNumber_41 : decode cX3_isNumber 41 = .ok (.iconst 1, 1) := by decide +kernel
theorem dX3_isNumber_42 : decode cX3_isNumber 42 = .ok (.ireturn, 1) := by decide +kernel
theorem dX3_readNumber_0 : decode cX3_readNumber 0 = .ok (.aload_n 0, 1) := by decide +kernel
theorem dX3_readNumber_1 : decode cX3_readNumber 1 = .ok (.getfield 29, 3) := by decide +kernel
theorem dX3_readNumber_4 : decode cX3_readNumber 4 = .ok (.ifCond .ne 12, 3) := by decide +kernel
theorem dX3_readNumber_7 : decode cX3_readNumber 7 = .ok (.aload_n 0, 1) := by decide +kernel
theorem dX3_readNumber_8 : decode cX3_readNumber 8 = .ok (.iload_n 1, 1) := by decide +kernel
theorem dX3_readNumber_9 : decode cX3_readNumber 9 = .ok (.iload_n 2, 1) := by decide +kernel
theorem dX3_readNumber_10 : decode cX3_readNumber 10 = .ok (.invokevirtual 121, 3) := by decide +kernel
theorem dX3_readNumber_13 : decode cX3_readNumber 13 = .ok (.ifCond .ne 5, 3) := by decide +kernel
theorem dX3_readNumber_16 : decode cX3_readNumber 16 = .ok (.iconst 0, 1) := by decide +kernel
theorem dX3_readNumber_17 : decode cX3_readNumber 17 = .ok (.ireturn, 1) := by decide +kernel
theorem dX3_readNumber_18 : decode cX3_readNumber 18 = .ok (.aload_n 0, 1) := by decide +kernel
theorem dX3_readNumber_19 : decode cX3_readNumber 19 = .ok (.getfield 12, 3) := by decide +kernel
theorem dX3_readNumber_22 : decode cX3_readNumber 22 = .ok (.getfield 125, 3) := by decide +kernel
theorem dX3_readNumber_25 : decode cX3_readNumber 25 = .ok (.istore_n 3, 1) := by decide +kernel
theorem dX3_readNumber_26 : decode cX3_readNumber 26 = .ok (.aload_n 0, 1) := by decide +kernel
theorem dX3_readNumber_27 : decode cX3_readNumber 27 = .ok (.getfield 12, 3) := by decide +kernel
theorem dX3_readNumber_30 : decode cX3_readNumber 30 = .ok (.invokevirtual 84, 3) := by decide +kernel
theorem dX3_readNumber_33 : decode cX3_readNumber 33 = .ok (.iload_n 3, 1) := by decide +kernel
theorem dX3_readNumber_34 : decode cX3_readNumber 34 = .ok (.ireturn, 1) := by decide +kernel
theorem dX4_init_0 : decode cX4_init 0 = .ok (.aload_n 0, 1) := by decide +kernel
theorem dX4_init_1 : decode cX4_init 1 = .ok (.invokespecial 3, 3) := by decide +kernel
theorem dX4_init_4 : decode cX4_init 4 = .ok (.aload_n 0, 1) := by decide +kernel
theorem dX4_init_5 : decode cX4_init 5 = .ok (.iconst 4, 1) := by decide +kernel
theorem dX4_init_6 : decode cX4_init 6 = .ok (.anewarray 9, 3) := by decide +kernel
theorem dX4_init_9 : decode cX4_init 9 = .ok (.putfield 11, 3) := by decide +kernel
theorem dX4_init_12 : decode cX4_init 12 = .ok (.aload_n 0, 1) := by decide +kernel
theorem dX4_init_13 : decode cX4_init 13 = .ok (.new 17, 3) := by decide +kernel
theorem dX4_init_16 : decode cX4_init 16 = .ok (.dup, 1) := by decide +kernel
theorem dX4_init_17 : decode cX4_init 17 = .ok (.invokespecial 19, 3) := by decide +kernel
theorem dX4_init_20 : decode cX4_init 20 = .ok (.putfield 20, 3) := by decide +kernel
theorem dX4_init_23 : decode cX4_init 23 = .ok (.iconst 0, 1) := by decide +kernel
theorem dX4_init_24 : decode cX4_init 24 = .ok (.istore_n 1, 1) := by decide +kernel
theorem dX4_init_25 : decode cX4_init 25 = .ok (.iload_n 1, 1) := by decide +kernel
theorem dX4_init_26 : decode cX4_init 26 = .ok (.iconst 4, 1) := by decide +kernel
theorem dX4_init_27 : decode cX4_init 27 = .ok (.if_icmp .ge 22, 3) := by decide +kernel
theorem dX4_init_30 : decode cX4_init 30 = .ok (.aload_n 0, 1) := by decide +kernel
theorem dX4_init_31 : decode cX4_init 31 = .ok (.getfield 11, 3) := by decide +kernel
theorem dX4_init_34 : decode cX4_init 34 = .ok (.iload_n 1, 1) := by decide +kernel
theorem dX4_init_35 : decode cX4_init 35 = .ok (.new 9, 3) := by decide +kernel
theorem dX4_init_38 : decode cX4_init 38 = .ok (.dup, 1) := by decide +kernel
theorem dX4_init_39 : decode cX4_init 39 = .ok (.invokespecial 24, 3) := by decide +kernel
theorem dX4_init_42 : decode cX4_init 42 = .ok (.aastore, 1) := by decide +kernel
theorem dX4_init_43 : decode cX4_init 43 = .ok (.iinc 1 1, 3) := by decide +kernel
theorem dX4_init_46 : decode cX4_init 46 = .ok (.goto (-21), 3) := by decide +kernel
theorem dX4_init_49 : decode cX4_init 49 = .ok (.return_, 1) := by decide +kernel
theorem dX4_fit_0 : decode cX4_fit 0 = .ok (.iconst 0, 1) := by decide +kernel
theorem dX4_fit_1 : decode cX4_fit 1 = .ok (.istore_n 2, 1) := by decide +kernel
theorem dX4_fit_2 : decode cX4_fit 2 = .ok (.iload_n 2, 1) := by decide +kernel
theorem dX4_fit_3 : decode cX4_fit 3 = .ok (.aload_n 1, 1) := by decide +kernel
theorem dX4_fit_4 : decode cX4_fit 4 = .ok (.getfield 25, 3) := by decide +kernel
theorem dX4_fit_7 : decode cX4_fit 7 = .ok (.getfield 31, 3) := by decide +kernel
theorem dX4_fit_10 : decode cX4_fit 10 = .ok (.if_icmp .ge 31, 3) := by decide +kernel
theorem dX4_fit_13 : decode cX4_fit 13 = .ok (.aload_n 1, 1) := by decide +kernel
theorem dX4_fit_14 : decode cX4_fit 14 = .ok (.getfield 25, 3) := by decide +kernel
theorem dX4_fit_17 : decode cX4_fit 17 = .ok (.iload_n 2, 1) := by decide +kernel
theorem dX4_fit_18 : decode cX4_fit 18 = .ok (.invokevirtual 37, 3) := by decide +kernel
theorem dX4_fit_21 : decode cX4_fit 21 = .ok (.istore_n 3, 1) := by decide +kernel
theorem dX4_fit_22 : decode cX4_fit 22 = .ok (.aload_n 0, 1) := by decide +kernel
theorem dX4_fit_23 : decode cX4_fit 23 = .ok (.iload_n 3, 1) := by decide +kernel
theorem dX4_fit_24 : decode cX4_fit 24 = .ok (.invokevirtual 41, 3) := by decide +kernel
theorem dX4_fit_27 : decode cX4_fit 27 = .ok (.aload_n 1, 1) := by decide +kernel
theorem dX4_fit_28 : decode cX4_fit 28 = .ok (.iload_n 3, 1) := by decide +kernel
theorem dX4_fit_29 : decode cX4_fit 29 = .ok (.invokevirtual 45, 3) := by decide +kernel
theorem dX4_fit_32 : decode cX4_fit 32 = .ok (.invokevirtual 49, 3) := by decide +kernel
theorem dX4_fit_35 : decode cX4_fit 35 = .ok (.iinc 2 1, 3) := by decide +kernel
theorem dX4_fit_38 : decode cX4_fit 38 = .ok (.goto (-36), 3) := by decide +kernel
theorem dX4_fit_41 : decode cX4_fit 41 = .ok (.return_, 1) := by decide +kernel
theorem dX4_tableAt_0 : decode cX4_tableAt 0 = .ok (.iload_n 1, 1) := by decide +kernel
theorem dX4_tableAt_1 : decode cX4_tableAt 1 = .ok (.ifCond .lt 17, 3) := by decide +kernel
theorem dX4_tableAt_4 : decode cX4_tableAt 4 = .ok (.iload_n 1, 1) := by decide +kernel
theorem dX4_tableAt_5 : decode cX4_tableAt 5 = .ok (.iconst 4, 1) := by decide +kernel
theorem dX4_tableAt_6 : decode cX4_tableAt 6 = .ok (.if_icmp .ge 12, 3) := by decide +kernel
theorem dX4_tableAt_9 : decode cX4_tableAt 9 = .ok (.aload_n 0, 1) := by decide +kernel
theorem dX4_tableAt_10 : decode cX4_tableAt 10 = .ok (.getfield 11, 3) := by decide +kernel
theorem dX4_tableAt_13 : decode cX4_tableAt 13 = .ok (.iload_n 1, 1) := by decide +kernel
theorem dX4_tableAt_14 : decode cX4_tableAt 14 = .ok (.aaload, 1) := by decide +kernel
theorem dX4_tableAt_15 : decode cX4_tableAt 15 = .ok (.goto 9, 3) := by decide +kernel
theorem dX4_tableAt_18 : decode cX4_tableAt 18 = .ok (.aload_n 0, 1) := by decide +kernel
theorem dX4_tableAt_19 : decode cX4_tableAt 19 = .ok (.getfield 11, 3) := by decide +kernel
theorem dX4_tableAt_22 : decode cX4_tableAt 22 = .ok (.iconst 0, 1) := by decide +kernel
theorem dX4_tableAt_23 : decode cX4_tableAt 23 = .ok (.aaload, 1) := by decide +kernel
theorem dX4_tableAt_24 : decode cX4_tableAt 24 = .ok (.areturn, 1) := by decide +kernel
theorem dX4_valueOf_0 : decode cX4_valueOf 0 = .ok (.aload_n 1, 1) := by decide +kernel
theorem dX4_valueOf_1 : decode cX4_valueOf 1 = .ok (.iload_n 2, 1) := by decide +kernel
theorem dX4_valueOf_2 : decode cX4_valueOf 2 = .ok (.invokevirtual 53, 3) := by decide +kernel
theorem dX4_valueOf_5 : decode cX4_valueOf 5 = .ok (.istore_n 3, 1) := by decide +kernel
theorem dX4_valueOf_6 : decode cX4_valueOf 6 = .ok (.aload_n 1, 1) := by decide +kernel
theorem dX4_valueOf_7 : decode cX4_valueOf 7 = .ok (.iload_n 2, 1) := by decide +kernel
theorem dX4_valueOf_8 : decode cX4_valueOf 8 = .ok (.invokevirtual 37, 3) := by decide +kernel
theorem dX4_valueOf_11 : decode cX4_valueOf 11 = .ok (.istore 4, 2) := by decide +kernel
theorem dX4_valueOf_13 : decode cX4_valueOf 13 = .ok (.aload_n 1, 1) := by decide +kernel
theorem dX4_valueOf_14 : decode cX4_valueOf 14 = .ok (.iload_n 2, 1) := by decide +kernel
theorem dX4_valueOf_15 : decode cX4_valueOf 15 = .ok (.invokevirtual 56, 3) := by decide +kernel
theorem dX4_valueOf_18 : decode cX4_valueOf 18 = .ok (.ifCond .eq 21, 3) := by decide +kernel
theorem dX4_valueOf_21 : decode cX4_valueOf 21 = .ok (.aload_n 0, 1) := by decide +kernel
theorem dX4_valueOf_22 : decode cX4_valueOf 22 = .ok (.iload 4, 2) := by decide +kernel
theorem dX4_valueOf_24 : decode cX4_valueOf 24 = .ok (.invokevirtual 41, 3) := by decide +kernel
theorem dX4_valueOf_27 : decode cX4_valueOf 27 = .ok (.iload_n 3, 1) := by decide +kernel
theorem dX4_valueOf_28 : decode cX4_valueOf 28 = .ok (.aload_n 1, 1) := by decide +kernel
theorem dX4_valueOf_29 : decode cX4_valueOf 29 = .ok (.iload_n 2, 1) := by decide +kernel
theorem dX4_valueOf_30 : decode cX4_valueOf 30 = .ok (.invokevirtual 60, 3) := by decide +kernel
theorem dX4_valueOf_33 : decode cX4_valueOf 33 = .ok (.invokevirtual 63, 3) := by decide +kernel
theorem dX4_valueOf_36 : decode cX4_valueOf 36 = .ok (.goto 9, 3) := by decide +kernel
theorem dX4_valueOf_39 : decode cX4_valueOf 39 = .ok (.iload_n 3, 1) := by decide +kernel
theorem dX4_valueOf_40 : decode cX4_valueOf 40 = .ok (.iload 4, 2) := by decide +kernel
theorem dX4_valueOf_42 : decode cX4_valueOf 42 = .ok (.invokestatic 67, 3) := by decide +kernel
theorem dX4_valueOf_45 : decode cX4_valueOf 45 = .ok (.ireturn, 1) := by decide +kernel
theorem dX4_stickValue_0 : decode cX4_stickValue 0 = .ok (.iload_n 1, 1) := by decide +kernel
theorem dX4_stickValue_1 : decode cX4_stickValue 1 = .ok (.iconst 1, 1) := by decide +kernel
theorem dX4_stickValue_2 : decode cX4_stickValue 2 = .ok (.iadd, 1) := by decide +kernel
theorem dX4_stickValue_3 : decode cX4_stickValue 3 = .ok (.istore_n 2, 1) := by decide +kernel
theorem dX4_stickValue_4 : decode cX4_stickValue 4 = .ok (.iload_n 2, 1) := by decide +kernel
theorem dX4_stickValue_5 : decode cX4_stickValue 5 = .ok (.ifCond .le 9, 3) := by decide +kernel
theorem dX4_stickValue_8 : decode cX4_stickValue 8 = .ok (.iload_n 0, 1) := by decide +kernel
theorem dX4_stickValue_9 : decode cX4_stickValue 9 = .ok (.iload_n 2, 1) := by decide +kernel
theorem dX4_stickValue_10 : decode cX4_stickValue 10 = .ok (.irem, 1) := by decide +kernel
theorem dX4_stickValue_11 : decode cX4_stickValue 11 = .ok (.goto 4, 3) := by decide +kernel
theorem dX4_stickValue_14 : decode cX4_stickValue 14 = .ok (.iconst 0, 1) := by decide +kernel
theorem dX4_stickValue_15 : decode cX4_stickValue 15 = .ok (.ireturn, 1) := by decide +kernel
theorem dX4_totalOf_0 : decode cX4_totalOf 0 = .ok (.iconst 0, 1) := by decide +kernel
theorem dX4_totalOf_1 : decode cX4_totalOf 1 = .ok (.istore_n 2, 1) := by decide +kernel
theorem dX4_totalOf_2 : decode cX4_totalOf 2 = .ok (.iconst 0, 1) := by decide +kernel
theorem dX4_totalOf_3 : decode cX4_totalOf 3 = .ok (.istore_n 3, 1) := by decide +kernel
theorem dX4_totalOf_4 : decode cX4_totalOf 4 = .ok (.iload_n 3, 1) := by decide +kernel
theorem dX4_totalOf_5 : decode cX4_totalOf 5 = .ok (.aload_n 1, 1) := by decide +kernel
theorem dX4_totalOf_6 : decode cX4_totalOf 6 = .ok (.invokevirtual 70, 3) := by decide +kernel
theorem dX4_totalOf_9 : decode cX4_totalOf 9 = .ok (.if_icmp .ge 18, 3) := by decide +kernel
theorem dX4_totalOf_12 : decode cX4_totalOf 12 = .ok (.iload_n 2, 1) := by decide +kernel
theorem dX4_totalOf_13 : decode cX4_totalOf 13 = .ok (.aload_n 0, 1) := by decide +kernel
theorem dX4_totalOf_14 : decode cX4_totalOf 14 = .ok (.aload_n 1, 1) := by decide +kernel
theorem dX4_totalOf_15 : decode cX4_totalOf 15 = .ok (.iload_n 3, 1) := by decide +kernel
theorem dX4_totalOf_16 : decode cX4_totalOf 16 = .ok (.invokevirtual 74, 3) := by decide +kernel
theorem dX4_totalOf_19 : decode cX4_totalOf 19 = .ok (.ixor, 1) := by decide +kernel
theorem dX4_totalOf_20 : decode cX4_totalOf 20 = .ok (.istore_n 2, 1) := by decide +kernel
theorem dX4_totalOf_21 : decode cX4_totalOf 21 = .ok (.iinc 3 1, 3) := by decide +kernel
theorem dX4_totalOf_24 : decode cX4_totalOf 24 = .ok (.goto (-20), 3) := by decide +kernel
theorem dX4_totalOf_27 : decode cX4_totalOf 27 = .ok (.iload_n 2, 1) := by decide +kernel
theorem dX4_totalOf_28 : decode cX4_totalOf 28 = .ok (.ireturn, 1) := by decide +kernel
theorem dX4_movesTo_0 : decode cX4_movesTo 0 = .ok (.aload_n 1, 1) := by decide +kernel
theorem dX4_movesTo_1 : decode cX4_movesTo 1 = .ok (.iload_n 2, 1) := by decide +kernel
theorem dX4_movesTo_2 : decode cX4_movesTo 2 = .ok (.invokevirtual 53, 3) := by decide +kernel
theorem dX4_movesTo_5 : decode cX4_movesTo 5 = .ok (.istore 4, 2) := by decide +kernel
theorem dX4_movesTo_7 : decode cX4_movesTo 7 = .ok (.aload_n 1, 1) := by decide +kernel
theorem dX4_movesTo_8 : decode cX4_movesTo 8 = .ok (.iload_n 2, 1) := by decide +kernel
theorem dX4_movesTo_9 : decode cX4_movesTo 9 = .ok (.invokevirtual 37, 3) := by decide +kernel
theorem dX4_movesTo_12 : decode cX4_movesTo 12 = .ok (.istore 5, 2) := by decide +kernel
theorem dX4_movesTo_14 : decode cX4_movesTo 14 = .ok (.aload_n 1, 1) := by decide +kernel
theorem dX4_movesTo_15 : decode cX4_movesTo 15 = .ok (.iload_n 2, 1) := by decide +kernel
theorem dX4_movesTo_16 : decode cX4_movesTo 16 = .ok (.invokevirtual 56, 3) := by decide +kernel
theorem dX4_movesTo_19 : decode cX4_movesTo 19 = .ok (.ifCond .eq 21, 3) := by decide +kernel
theorem dX4_movesTo_22 : decode cX4_movesTo 22 = .ok (.aload_n 0, 1) := by decide +kernel
theorem dX4_movesTo_23 : decode cX4_movesTo 23 = .ok (.iload 5, 2) := by decide +kernel
theorem dX4_movesTo_25 : decode cX4_movesTo 25 = .ok (.invokevirtual 41, 3) := by decide +kernel
theorem dX4_movesTo_28 : decode cX4_movesTo 28 = .ok (.iload 4, 2) := by decide +kernel
theorem dX4_movesTo_30 : decode cX4_movesTo 30 = .ok (.aload_n 1, 1) := by decide +kernel
theorem dX4_movesTo_31 : decode cX4_movesTo 31 = .ok (.iload_n 2, 1) := by decide +kernel
theorem dX4_movesTo_32 : decode cX4_movesTo 32 = .ok (.invokevirtual 60, 3) := by decide +kernel
theorem dX4_movesTo_35 : decode cX4_movesTo 35 = .ok (.iload_n 3, 1) := by decide +kernel
theorem dX4_movesTo_36 : decode cX4_movesTo 36 = .ok (.invokevirtual 78, 3) := by decide +kernel
theorem dX4_movesTo_39 : decode cX4_movesTo 39 = .ok (.ireturn, 1) := by decide +kernel
theorem dX4_movesTo_40 : decode cX4_movesTo 40 = .ok (.iconst 0, 1) := by decide +kernel
theorem dX4_movesTo_41 : decode cX4_movesTo 41 = .ok (.istore 6, 2) := by decide +kernel
theorem dX4_movesTo_43 : decode cX4_movesTo 43 = .ok (.iconst 1, 1) := by decide +kernel
theorem dX4_movesTo_44 : decode cX4_movesTo 44 = .ok (.istore 7, 2) := by decide +kernel
theorem dX4_movesTo_46 : decode cX4_movesTo 46 = .ok (.iload 7, 2) := by decide +kernel
theorem dX4_movesTo_48 : decode cX4_movesTo 48 = .ok (.iload 5, 2) := by decide +kernel
theorem dX4_movesTo_50 : decode cX4_movesTo 50 = .ok (.if_icmp .gt 38, 3) := by decide +kernel
theorem dX4_movesTo_53 : decode cX4_movesTo 53 = .ok (.iload 7, 2) := by decide +kernel
theorem dX4_movesTo_55 : decode cX4_movesTo 55 = .ok (.iload 4, 2) := by decide +kernel
theorem dX4_movesTo_57 : decode cX4_movesTo 57 = .ok (.if_icmp .gt 31, 3) := by decide +kernel
theorem dX4_movesTo_60 : decode cX4_movesTo 60 = .ok (.iload_n 3, 1) := by decide +kernel
theorem dX4_movesTo_61 : decode cX4_movesTo 61 = .ok (.iconst (-1), 1) := by decide +kernel
theorem dX4_movesTo_62 : decode cX4_movesTo 62 = .ok (.if_icmp .eq 17, 3) := by decide +kernel
theorem dX4_movesTo_65 : decode cX4_movesTo 65 = .ok (.iload 4, 2) := by decide +kernel
theorem dX4_movesTo_67 : decode cX4_movesTo 67 = .ok (.iload 7, 2) := by decide +kernel
theorem dX4_movesTo_69 : decode cX4_movesTo 69 = .ok (.isub, 1) := by decide +kernel
theorem dX4_movesTo_70 : decode cX4_movesTo 70 = .ok (.iload 5, 2) := by decide +kernel
theorem dX4_movesTo_72 : decode cX4_movesTo 72 = .ok (.invokestatic 67, 3) := by decide +kernel
theorem dX4_movesTo_75 : decode cX4_movesTo 75 = .ok (.iload_n 3, 1) := by decide +kernel
theorem dX4_movesTo_76 : decode cX4_movesTo 76 = .ok (.if_icmp .ne 6, 3) := by decide +kernel
theorem dX4_movesTo_79 : decode cX4_movesTo 79 = .ok (.iinc 6 1, 3) := by decide +kernel
theorem dX4_movesTo_82 : decode cX4_movesTo 82 = .ok (.iinc 7 1, 3) := by decide +kernel
theorem dX4_movesTo_85 : decode cX4_movesTo 85 = .ok (.goto (-39), 3) := by decide +kernel
theorem dX4_movesTo_88 : decode cX4_movesTo 88 = .ok (.iload 6, 2) := by decide +kernel
theorem dX4_movesTo_90 : decode cX4_movesTo 90 = .ok (.ireturn, 1) := by decide +kernel
theorem dX4_winningMoves_0 : decode cX4_winningMoves 0 = .ok (.aload_n 0, 1) := by decide +kernel
theorem dX4_winningMoves_1 : decode cX4_winningMoves 1 = .ok (.aload_n 1, 1) := by decide +kernel
theorem dX4_winningMoves_2 : decode cX4_winningMoves 2 = .ok (.iload_n 2, 1) := by decide +kernel
theorem dX4_winningMoves_3 : decode cX4_winningMoves 3 = .ok (.aload_n 0, 1) := by decide +kernel
theorem dX4_winningMoves_4 : decode cX4_winningMoves 4 = .ok (.aload_n 1, 1) := by decide +kernel
theorem dX4_winningMoves_5 : decode cX4_winningMoves 5 = .ok (.invokevirtual 82, 3) := by decide +kernel
theorem dX4_winningMoves_8 : decode cX4_winningMoves 8 = .ok (.aload_n 0, 1) := by decide +kernel
theorem dX4_winningMoves_9 : decode cX4_winningMoves 9 = .ok (.aload_n 1, 1) := by decide +kernel
theorem dX4_winningMoves_10 : decode cX4_winningMoves 10 = .ok (.iload_n 2, 1) := by decide +kernel
theorem dX4_winningMoves_11 : decode cX4_winningMoves 11 = .ok (.invokevirtual 74, 3) := by decide +kernel
theorem dX4_winningMoves_14 : decode cX4_winningMoves 14 = .ok (.ixor, 1) := by decide +kernel
theorem dX4_winningMoves_15 : decode cX4_winningMoves 15 = .ok (.invokevirtual 86, 3) := by decide +kernel
theorem dX4_winningMoves_18 : decode cX4_winningMoves 18 = .ok (.ireturn, 1) := by decide +kernel
theorem dX4_allMoves_0 : decode cX4_allMoves 0 = .ok (.iconst 0, 1) := by decide +kernel
theorem dX4_allMoves_1 : decode cX4_allMoves 1 = .ok (.istore_n 2, 1) := by decide +kernel
theorem dX4_allMoves_2 : decode cX4_allMoves 2 = .ok (.iconst 0, 1) := by decide +kernel
theorem dX4_allMoves_3 : decode cX4_allMoves 3 = .ok (.istore_n 3, 1) := by decide +kernel
theorem dX4_allMoves_4 : decode cX4_allMoves 4 = .ok (.iload_n 3, 1) := by decide +kernel
theorem dX4_allMoves_5 : decode cX4_allMoves 5 = .ok (.aload_n 1, 1) := by decide +kernel
theorem dX4_allMoves_6 : decode cX4_allMoves 6 = .ok (.invokevirtual 70, 3) := by decide +kernel
theorem dX4_allMoves_9 : decode cX4_allMoves 9 = .ok (.if_icmp .ge 19, 3) := by decide +kernel
theorem dX4_allMoves_12 : decode cX4_allMoves 12 = .ok (.iload_n 2, 1) := by decide +kernel
theorem dX4_allMoves_13 : decode cX4_allMoves 13 = .ok (.aload_n 0, 1) := by decide +kernel
theorem dX4_allMoves_14 : decode cX4_allMoves 14 = .ok (.aload_n 1, 1) := by decide +kernel
theorem dX4_allMoves_15 : decode cX4_allMoves 15 = .ok (.iload_n 3, 1) := by decide +kernel
theorem dX4_allMoves_16 : decode cX4_allMoves 16 = .ok (.iconst (-1), 1) := by decide +kernel
theorem dX4_allMoves_17 : decode cX4_allMoves 17 = .ok (.invokevirtual 86, 3) := by decide +kernel
theorem dX4_allMoves_20 : decode cX4_allMoves 20 = .ok (.iadd, 1) := by decide +kernel
theorem dX4_allMoves_21 : decode cX4_allMoves 21 = .ok (.istore_n 2, 1) := by decide +kernel
theorem dX4_allMoves_22 : decode cX4_allMoves 22 = .ok (.iinc 3 1, 3) := by decide +kernel
theorem dX4_allMoves_25 : decode cX4_allMoves 25 = .ok (.goto (-21), 3) := by decide +kernel
theorem dX4_allMoves_28 : decode cX4_allMoves 28 = .ok (.iload_n 2, 1) := by decide +kernel
theorem dX4_allMoves_29 : decode cX4_allMoves 29 = .ok (.ireturn, 1) := by decide +kernel
theorem dX4_allWinningMoves_0 : decode cX4_allWinningMoves 0 = .ok (.iconst 0, 1) := by decide +kernel
theorem dX4_allWinningMoves_1 : decode cX4_allWinningMoves 1 = .ok (.istore_n 2, 1) := by decide +kernel
theorem dX4_allWinningMoves_2 : decode cX4_allWinningMoves 2 = .ok (.iconst 0, 1) := by decide +kernel
theorem dX4_allWinningMoves_3 : decode cX4_allWinningMoves 3 = .ok (.istore_n 3, 1) := by decide +kernel
theorem dX4_allWinningMoves_4 : decode cX4_allWinningMoves 4 = .ok (.iload_n 3, 1) := by decide +kernel
theorem dX4_allWinningMoves_5 : decode cX4_allWinningMoves 5 = .ok (.aload_n 1, 1) := by decide +kernel
theorem dX4_allWinningMoves_6 : decode cX4_allWinningMoves 6 = .ok (.invokevirtual 70, 3) := by decide +kernel
theorem dX4_allWinningMoves_9 : decode cX4_allWinningMoves 9 = .ok (.if_icmp .ge 18, 3) := by decide +kernel
theorem dX4_allWinningMoves_12 : decode cX4_allWinningMoves 12 = .ok (.iload_n 2, 1) := by decide +kernel
theorem dX4_allWinningMoves_13 : decode cX4_allWinningMoves 13 = .ok (.aload_n 0, 1) := by decide +kernel
theorem dX4_allWinningMoves_14 : decode cX4_allWinningMoves 14 = .ok (.aload_n 1, 1) := by decide +kernel
theorem dX4_allWinningMoves_15 : decode cX4_allWinningMoves 15 = .ok (.iload_n 3, 1) := by decide +kernel
theorem dX4_allWinningMoves_16 : decode cX4_allWinningMoves 16 = .ok (.invokevirtual 89, 3) := by decide +kernel
theorem dX4_allWinningMoves_19 : decode cX4_allWinningMoves 19 = .ok (.iadd, 1) := by decide +kernel
theorem dX4_allWinningMoves_20 : decode cX4_allWinningMoves 20 = .ok (.istore_n 2, 1) := by decide +kernel
theorem dX4_allWinningMoves_21 : decode cX4_allWinningMoves 21 = .ok (.iinc 3 1, 3) := by decide +kernel
theorem dX4_allWinningMoves_24 : decode cX4_allWinningMoves 24 = .ok (.goto (-20), 3) := by decide +kernel
theorem dX4_allWinningMoves_27 : decode cX4_allWinningMoves 27 = .ok (.iload_n 2, 1) := by decide +kernel
theorem dX4_allWinningMoves_28 : decode cX4_allWinningMoves 28 = .ok (.ireturn, 1) := by decide +kernel
theorem dX4_isOver_0 : decode cX4_isOver 0 = .ok (.iconst 0, 1) := by decide +kernel
theorem dX4_isOver_1 : decode cX4_isOver 1 = .ok (.istore_n 2, 1) := by decide +kernel
theorem dX4_isOver_2 : decode cX4_isOver 2 = .ok (.iload_n 2, 1) := by decide +kernel
theorem dX4_isOver_3 : decode cX4_isOver 3 = .ok (.aload_n 1, 1) := by decide +kernel
theorem dX4_isOver_4 : decode cX4_isOver 4 = .ok (.invokevirtual 70, 3) := by decide +kernel
theorem dX4_isOver_7 : decode cX4_isOver 7 = .ok (.if_icmp .ge 25, 3) := by decide +kernel
theorem dX4_isOver_10 : decode cX4_isOver 10 = .ok (.aload_n 0, 1) := by decide +kernel
theorem dX4_isOver_11 : decode cX4_isOver 11 = .ok (.aload_n 1, 1) := by decide +kernel
theorem dX4_isOver_12 : decode cX4_isOver 12 = .ok (.iload_n 2, 1) := by decide +kernel
theorem dX4_isOver_13 : decode cX4_isOver 13 = .ok (.iconst (-1), 1) := by decide +kernel
theorem dX4_isOver_14 : decode cX4_isOver 14 = .ok (.aload_n 0, 1) := by decide +kernel
theorem dX4_isOver_15 : decode cX4_isOver 15 = .ok (.getfield 20, 3) := by decide +kernel
theorem dX4_isOver_18 : decode cX4_isOver 18 = .ok (.invokevirtual 92, 3) := by decide +kernel
theorem dX4_isOver_21 : decode cX4_isOver 21 = .ok (.ifCond .eq 5, 3) := by decide +kernel
theorem dX4_isOver_24 : decode cX4_isOver 24 = .ok (.iconst 0, 1) := by decide +kernel
theorem dX4_isOver_25 : decode cX4_isOver 25 = .ok (.ireturn, 1) := by decide +kernel
theorem dX4_isOver_26 : decode cX4_isOver 26 = .ok (.iinc 2 1, 3) := by decide +kernel
theorem dX4_isOver_29 : decode cX4_isOver 29 = .ok (.goto (-27), 3) := by decide +kernel
theorem dX4_isOver_32 : decode cX4_isOver 32 = .ok (.iconst 1, 1) := by decide +kernel
theorem dX4_isOver_33 : decode cX4_isOver 33 = .ok (.ireturn, 1) := by decide +kernel
theorem dX4_findMove_0 : decode cX4_findMove 0 = .ok (.aload_n 1, 1) := by decide +kernel
theorem dX4_findMove_1 : decode cX4_findMove 1 = .ok (.iload_n 2, 1) := by decide +kernel
theorem dX4_findMove_2 : decode cX4_findMove 2 = .ok (.invokevirtual 53, 3) := by decide +kernel
theorem dX4_findMove_5 : decode cX4_findMove 5 = .ok (.istore 5, 2) := by decide +kernel
theorem dX4_findMove_7 : decode cX4_findMove 7 = .ok (.aload_n 1, 1) := by decide +kernel
theorem dX4_findMove_8 : decode cX4_findMove 8 = .ok (.iload_n 2, 1) := by decide +kernel
theorem dX4_findMove_9 : decode cX4_findMove 9 = .ok (.invokevirtual 37, 3) := by decide +kernel
theorem dX4_findMove_12 : decode cX4_findMove 12 = .ok (.istore 6, 2) := by decide +kernel
theorem dX4_findMove_14 : decode cX4_findMove 14 = .ok (.aload_n 1, 1) := by decide +kernel
theorem dX4_findMove_15 : decode cX4_findMove 15 = .ok (.iload_n 2, 1) := by decide +kernel
theorem dX4_findMove_16 : decode cX4_findMove 16 = .ok (.invokevirtual 56, 3) := by decide +kernel
theorem dX4_findMove_19 : decode cX4_findMove 19 = .ok (.ifCond .eq 23, 3) := by decide +kernel
theorem dX4_findMove_22 : decode cX4_findMove 22 = .ok (.aload_n 0, 1) := by decide +kernel
theorem dX4_findMove_23 : decode cX4_findMove 23 = .ok (.iload 6, 2) := by decide +kernel
theorem dX4_findMove_25 : decode cX4_findMove 25 = .ok (.invokevirtual 41, 3) := by decide +kernel
theorem dX4_findMove_28 : decode cX4_findMove 28 = .ok (.iload 5, 2) := by decide +kernel
theorem dX4_findMove_30 : decode cX4_findMove 30 = .ok (.aload_n 1, 1) := by decide +kernel
theorem dX4_findMove_31 : decode cX4_findMove 31 = .ok (.iload_n 2, 1) := by decide +kernel
theorem dX4_findMove_32 : decode cX4_findMove 32 = .ok (.invokevirtual 60, 3) := by decide +kernel
theorem dX4_findMove_35 : decode cX4_findMove 35 = .ok (.iload_n 3, 1) := by decide +kernel
theorem dX4_findMove_36 : decode cX4_findMove 36 = .ok (.aload 4, 2) := by decide +kernel
theorem dX4_findMove_38 : decode cX4_findMove 38 = .ok (.invokevirtual 96, 3) := by decide +kernel
theorem dX4_findMove_41 : decode cX4_findMove 41 = .ok (.ireturn, 1) := by decide +kernel
theorem dX4_findMove_42 : decode cX4_findMove 42 = .ok (.iconst 1, 1) := by decide +kernel
theorem dX4_findMove_43 : decode cX4_findMove 43 = .ok (.istore 7, 2) := by decide +kernel
theorem dX4_findMove_45 : decode cX4_findMove 45 = .ok (.iload 7, 2) := by decide +kernel
theorem dX4_findMove_47 : decode cX4_findMove 47 = .ok (.iload 6, 2) := by decide +kernel
theorem dX4_findMove_49 : decode cX4_findMove 49 = .ok (.if_icmp .gt 50, 3) := by decide +kernel
theorem dX4_findMove_52 : decode cX4_findMove 52 = .ok (.iload 7, 2) := by decide +kernel
theorem dX4_findMove_54 : decode cX4_findMove 54 = .ok (.iload 5, 2) := by decide +kernel
theorem dX4_findMove_56 : decode cX4_findMove 56 = .ok (.if_icmp .gt 43, 3) := by decide +kernel
theorem dX4_findMove_59 : decode cX4_findMove 59 = .ok (.iload_n 3, 1) := by decide +kernel
theorem dX4_findMove_60 : decode cX4_findMove 60 = .ok (.iconst (-1), 1) := by decide +kernel
theorem dX4_findMove_61 : decode cX4_findMove 61 = .ok (.if_icmp .eq 17, 3) := by decide +kernel
theorem dX4_findMove_64 : decode cX4_findMove 64 = .ok (.iload 5, 2) := by decide +kernel
theorem dX4_findMove_66 : decode cX4_findMove 66 = .ok (.iload 7, 2) := by decide +kernel
theorem dX4_findMove_68 : decode cX4_findMove 68 = .ok (.isub, 1) := by decide +kernel
theorem dX4_findMove_69 : decode cX4_findMove 69 = .ok (.iload 6, 2) := by decide +kernel
theorem dX4_findMove_71 : decode cX4_findMove 71 = .ok (.invokestatic 67, 3) := by decide +kernel
theorem dX4_findMove_74 : decode cX4_findMove 74 = .ok (.iload_n 3, 1) := by decide +kernel
theorem dX4_findMove_75 : decode cX4_findMove 75 = .ok (.if_icmp .ne 18, 3) := by decide +kernel
theorem dX4_findMove_78 : decode cX4_findMove 78 = .ok (.aload 4, 2) := by decide +kernel
theorem dX4_findMove_80 : decode cX4_findMove 80 = .ok (.iload 7, 2) := by decide +kernel
theorem dX4_findMove_82 : decode cX4_findMove 82 = .ok (.putfield 99, 3) := by decide +kernel
theorem dX4_findMove_85 : decode cX4_findMove 85 = .ok (.aload 4, 2) := by decide +kernel
theorem dX4_findMove_87 : decode cX4_findMove 87 = .ok (.iconst 0, 1) := by decide +kernel
theorem dX4_findMove_88 : decode cX4_findMove 88 = .ok (.putfield 102, 3) := by decide +kernel
theorem dX4_findMove_91 : decode cX4_findMove 91 = .ok (.iconst 1, 1) := by decide +kernel
theorem dX4_findMove_92 : decode cX4_findMove 92 = .ok (.ireturn, 1) := by decide +kernel
theorem dX4_findMove_93 : decode cX4_findMove 93 = .ok (.iinc 7 1, 3) := by decide +kernel
theorem dX4_findMove_96 : decode cX4_findMove 96 = .ok (.goto (-51), 3) := by decide +kernel
theorem dX4_findMove_99 : decode cX4_findMove 99 = .ok (.iconst 0, 1) := by decide +kernel
theorem dX4_findMove_100 : decode cX4_findMove 100 = .ok (.ireturn, 1) := by decide +kernel
theorem dX4_advise_0 : decode cX4_advise 0 = .ok (.aload_n 0, 1) := by decide +kernel
theorem dX4_advise_1 : decode cX4_advise 1 = .ok (.aload_n 1, 1) := by decide +kernel
theorem dX4_advise_2 : decode cX4_advise 2 = .ok (.invokevirtual 82, 3) := by decide +kernel
theorem dX4_advise_5 : decode cX4_advise 5 = .ok (.istore_n 3, 1) := by decide +kernel
theorem dX4_advise_6 : decode cX4_advise 6 = .ok (.aload_n 2, 1) := by decide +kernel
theorem dX4_advise_7 : decode cX4_advise 7 = .ok (.iconst 0, 1) := by decide +kernel
theorem dX4_advise_8 : decode cX4_advise 8 = .ok (.putfield 105, 3) := by decide +kernel
theorem dX4_advise_11 : decode cX4_advise 11 = .ok (.aload_n 2, 1) := by decide +kernel
theorem dX4_advise_12 : decode cX4_advise 12 = .ok (.iload_n 3, 1) := by decide +kernel
theorem dX4_advise_13 : decode cX4_advise 13 = .ok (.ifCond .eq 7, 3) := by decide +kernel
theorem dX4_advise_16 : decode cX4_advise 16 = .ok (.iconst 1, 1) := by decide +kernel
theorem dX4_advise_17 : decode cX4_advise 17 = .ok (.goto 4, 3) := by decide +kernel
theorem dX4_advise_20 : decode cX4_advise 20 = .ok (.iconst 0, 1) := by decide +kernel
theorem dX4_advise_21 : decode cX4_advise 21 = .ok (.putfield 109, 3) := by decide +kernel
theorem dX4_advise_24 : decode cX4_advise 24 = .ok (.iconst 0, 1) := by decide +kernel
theorem dX4_advise_25 : decode cX4_advise 25 = .ok (.istore 4, 2) := by decide +kernel
theorem dX4_advise_27 : decode cX4_advise 27 = .ok (.iload 4, 2) := by decide +kernel
theorem dX4_advise_29 : decode cX4_advise 29 = .ok (.aload_n 1, 1) := by decide +kernel
theorem dX4_advise_30 : decode cX4_advise 30 = .ok (.invokevirtual 70, 3) := by decide +kernel
theorem dX4_advise_33 : decode cX4_advise 33 = .ok (.if_icmp .ge 55, 3) := by decide +kernel
theorem dX4_advise_36 : decode cX4_advise 36 = .ok (.aload_n 2, 1) := by decide +kernel
theorem dX4_advise_37 : decode cX4_advise 37 = .ok (.getfield 105, 3) := by decide +kernel
theorem dX4_advise_40 : decode cX4_advise 40 = .ok (.ifCond .ne 48, 3) := by decide +kernel
theorem dX4_advise_43 : decode cX4_advise 43 = .ok (.iload_n 3, 1) := by decide +kernel
theorem dX4_advise_44 : decode cX4_advise 44 = .ok (.ifCond .ne 7, 3) := by decide +kernel
theorem dX4_advise_47 : decode cX4_advise 47 = .ok (.iconst (-1), 1) := by decide +kernel
theorem dX4_advise_48 : decode cX4_advise 48 = .ok (.goto 12, 3) := by decide +kernel
theorem dX4_advise_51 : decode cX4_advise 51 = .ok (.iload_n 3, 1) := by decide +kernel
theorem dX4_advise_52 : decode cX4_advise 52 = .ok (.aload_n 0, 1) := by decide +kernel
theorem dX4_advise_53 : decode cX4_advise 53 = .ok (.aload_n 1, 1) := by decide +kernel
theorem dX4_advise_54 : decode cX4_advise 54 = .ok (.iload 4, 2) := by decide +kernel
theorem dX4_advise_56 : decode cX4_advise 56 = .ok (.invokevirtual 74, 3) := by decide +kernel
theorem dX4_advise_59 : decode cX4_advise 59 = .ok (.ixor, 1) := by decide +kernel
theorem dX4_advise_60 : decode cX4_advise 60 = .ok (.istore 5, 2) := by decide +kernel
theorem dX4_advise_62 : decode cX4_advise 62 = .ok (.aload_n 2, 1) := by decide +kernel
theorem dX4_advise_63 : decode cX4_advise 63 = .ok (.iload 4, 2) := by decide +kernel
theorem dX4_advise_65 : decode cX4_advise 65 = .ok (.putfield 112, 3) := by decide +kernel
theorem dX4_advise_68 : decode cX4_advise 68 = .ok (.aload_n 2, 1) := by decide +kernel
theorem dX4_advise_69 : decode cX4_advise 69 = .ok (.aload_n 0, 1) := by decide +kernel
theorem dX4_advise_70 : decode cX4_advise 70 = .ok (.aload_n 1, 1) := by decide +kernel
theorem dX4_advise_71 : decode cX4_advise 71 = .ok (.iload 4, 2) := by decide +kernel
theorem dX4_advise_73 : decode cX4_advise 73 = .ok (.iload 5, 2) := by decide +kernel
theorem dX4_advise_75 : decode cX4_advise 75 = .ok (.aload_n 2, 1) := by decide +kernel
theorem dX4_advise_76 : decode cX4_advise 76 = .ok (.invokevirtual 92, 3) := by decide +kernel
theorem dX4_advise_79 : decode cX4_advise 79 = .ok (.putfield 105, 3) := by decide +kernel
theorem dX4_advise_82 : decode cX4_advise 82 = .ok (.iinc 4 1, 3) := by decide +kernel
theorem dX4_advise_85 : decode cX4_advise 85 = .ok (.goto (-58), 3) := by decide +kernel
theorem dX4_advise_88 : decode cX4_advise 88 = .ok (.return_, 1) := by decide +kernel
theorem dX5_init_0 : decode cX5_init 0 = .ok (.aload_n 0, 1) := by decide +kernel
theorem dX5_init_1 : decode cX5_init 1 = .ok (.invokespecial 3, 3) := by decide +kernel
theorem dX5_init_4 : decode cX5_init 4 = .ok (.aload_n 0, 1) := by decide +kernel
theorem dX5_init_5 : decode cX5_init 5 = .ok (.sipush 256, 3) := by decide +kernel
theorem dX5_init_8 : decode cX5_init 8 = .ok (.newarray .int, 2) := by decide +kernel
theorem dX5_init_10 : decode cX5_init 10 = .ok (.putfield 9, 3) := by decide +kernel
theorem dX5_init_13 : decode cX5_init 13 = .ok (.aload_n 0, 1) := by decide +kernel
theorem dX5_init_14 : decode cX5_init 14 = .ok (.iconst 0, 1) := by decide +kernel
theorem dX5_init_15 : decode cX5_init 15 = .ok (.putfield 15, 3) := by decide +kernel
theorem dX5_init_18 : decode cX5_init 18 = .ok (.return_, 1) := by decide +kernel
theorem dX5_clear_0 : decode cX5_clear 0 = .ok (.aload_n 0, 1) := by decide +kernel
theorem dX5_clear_1 : decode cX5_clear 1 = .ok (.iconst 0, 1) := by decide +kernel
theorem dX5_clear_2 : decode cX5_clear 2 = .ok (.putfield 15, 3) := by decide +kernel
theorem dX5_clear_5 : decode cX5_clear 5 = .ok (.return_, 1) := by decide +kernel
theorem dX5_put_0 : decode cX5_put 0 = .ok (.aload_n 0, 1) := by decide +kernel
theorem dX5_put_1 : decode cX5_put 1 = .ok (.getfield 15, 3) := by decide +kernel
theorem dX5_put_4 : decode cX5_put 4 = .ok (.sipush 256, 3) := by decide +kernel
theorem dX5_put_7 : decode cX5_put 7 = .ok (.if_icmp .ge 23, 3) := by decide +kernel
theorem dX5_put_10 : decode cX5_put 10 = .ok (.aload_n 0, 1) := by decide +kernel
theorem dX5_put_11 : decode cX5_put 11 = .ok (.getfield 9, 3) := by decide +kernel
theorem dX5_put_14 : decode cX5_put 14 = .ok (.aload_n 0, 1) := by decide +kernel
theorem dX5_put_15 : decode cX5_put 15 = .ok (.getfield 15, 3) := by decide +kernel
theorem dX5_put_18 : decode cX5_put 18 = .ok (.iload_n 1, 1) := by decide +kernel
theorem dX5_put_19 : decode cX5_put 19 = .ok (.iastore, 1) := by decide +kernel
theorem dX5_put_20 : decode cX5_put 20 = .ok (.aload_n 0, 1) := by decide +kernel
theorem dX5_put_21 : decode cX5_put 21 = .ok (.dup, 1) := by decide +kernel
theorem dX5_put_22 : decode cX5_put 22 = .ok (.getfield 15, 3) := by decide +kernel
theorem dX5_put_25 : decode cX5_put 25 = .ok (.iconst 1, 1) := by decide +kernel
theorem dX5_put_26 : decode cX5_put 26 = .ok (.iadd, 1) := by decide +kernel
theorem dX5_put_27 : decode cX5_put 27 = .ok (.putfield 15, 3) := by decide +kernel
theorem dX5_put_30 : decode cX5_put 30 = .ok (.return_, 1) := by decide +kernel
theorem dX5_putWord_0 : decode cX5_putWord 0 = .ok (.iconst 0, 1) := by decide +kernel
theorem dX5_putWord_1 : decode cX5_putWord 1 = .ok (.istore_n 2, 1) := by decide +kernel
theorem dX5_putWord_2 : decode cX5_putWord 2 = .ok (.iload_n 2, 1) := by decide +kernel
theorem dX5_putWord_3 : decode cX5_putWord 3 = .ok (.aload_n 1, 1) := by decide +kernel
theorem dX5_putWord_4 : decode cX5_putWord 4 = .ok (.invokevirtual 19, 3) := by decide +kernel
theorem dX5_putWord_7 : decode cX5_putWord 7 = .ok (.if_icmp .ge 18, 3) := by decide +kernel
theorem dX5_putWord_10 : decode cX5_putWord 10 = .ok (.aload_n 0, 1) := by decide +kernel
theorem dX5_putWord_11 : decode cX5_putWord 11 = .ok (.aload_n 1, 1) := by decide +kernel
theorem dX5_putWord_12 : decode cX5_putWord 12 = .ok (.iload_n 2, 1) := by decide +kernel
theorem dX5_putWord_13 : decode cX5_putWord 13 = .ok (.invokevirtual 24, 3) := by decide +kernel
theorem dX5_putWord_16 : decode cX5_putWord 16 = .ok (.invokevirtual 28, 3) := by decide +kernel
theorem dX5_putWord_19 : decode cX5_putWord 19 = .ok (.iinc 2 1, 3) := by decide +kernel
theorem dX5_putWord_22 : decode cX5_putWord 22 = .ok (.goto (-20), 3) := by decide +kernel
theorem dX5_putWord_25 : decode cX5_putWord 25 = .ok (.return_, 1) := by decide +kernel
theorem dX5_putName_0 : decode cX5_putName 0 = .ok (.iconst 0, 1) := by decide +kernel
theorem dX5_putName_1 : decode cX5_putName 1 = .ok (.istore_n 3, 1) := by decide +kernel
theorem dX5_putName_2 : decode cX5_putName 2 = .ok (.iload_n 3, 1) := by decide +kernel
theorem dX5_putName_3 : decode cX5_putName 3 = .ok (.bipush 8, 2) := by decide +kernel
theorem dX5_putName_5 : decode cX5_putName 5 = .ok (.if_icmp .ge 31, 3) := by decide +kernel
theorem dX5_putName_8 : decode cX5_putName 8 = .ok (.lload_n 1, 1) := by decide +kernel
theorem dX5_putName_9 : decode cX5_putName 9 = .ok (.iload_n 3, 1) := by decide +kernel
theorem dX5_putName_10 : decode cX5_putName 10 = .ok (.invokestatic 32, 3) := by decide +kernel
theorem dX5_putName_13 : decode cX5_putName 13 = .ok (.ifCond .eq 23, 3) := by decide +kernel
theorem dX5_putName_16 : decode cX5_putName 16 = .ok (.aload_n 0, 1) := by decide +kernel
theorem dX5_putName_17 : decode cX5_putName 17 = .ok (.bipush 97, 2) := by decide +kernel
theorem dX5_putName_19 : decode cX5_putName 19 = .ok (.lload_n 1, 1) := by decide +kernel
theorem dX5_putName_20 : decode cX5_putName 20 = .ok (.iload_n 3, 1) := by decide +kernel
theorem dX5_putName_21 : decode cX5_putName 21 = .ok (.invokestatic 32, 3) := by decide +kernel
theorem dX5_putName_24 : decode cX5_putName 24 = .ok (.iadd, 1) := by decide +kernel
theorem dX5_putName_25 : decode cX5_putName 25 = .ok (.iconst 1, 1) := by decide +kernel
theorem dX5_putName_26 : decode cX5_putName 26 = .ok (.isub, 1) := by decide +kernel
theorem dX5_putName_27 : decode cX5_putName 27 = .ok (.invokevirtual 28, 3) := by decide +kernel
theorem dX5_putName_30 : decode cX5_putName 30 = .ok (.iinc 3 1, 3) := by decide +kernel
theorem dX5_putName_33 : decode cX5_putName 33 = .ok (.goto (-31), 3) := by decide +kernel
theorem dX5_putName_36 : decode cX5_putName 36 = .ok (.return_, 1) := by decide +kernel
theorem dX5_putNumber_0 : decode cX5_putNumber 0 = .ok (.iload_n 1, 1) := by decide +kernel
theorem dX5_putNumber_1 : decode cX5_putNumber 1 = .ok (.bipush 10, 2) := by decide +kernel
theorem dX5_putNumber_3 : decode cX5_putNumber 3 = .ok (.if_icmp .lt 14, 3) := by decide +kernel
theorem dX5_putNumber_6 : decode cX5_putNumber 6 = .ok (.aload_n 0, 1) := by decide +kernel
theorem dX5_putNumber_7 : decode cX5_putNumber 7 = .ok (.bipush 48, 2) := by decide +kernel
theorem dX5_putNumber_9 : decode cX5_putNumber 9 = .ok (.iload_n 1, 1) := by decide +kernel
theorem dX5_putNumber_10 : decode cX5_putNumber 10 = .ok (.bipush 10, 2) := by decide +kernel
theorem dX5_putNumber_12 : decode cX5_putNumber 12 = .ok (.idiv, 1) := by decide +kernel
theorem dX5_putNumber_13 : decode cX5_putNumber 13 = .ok (.iadd, 1) := by decide +kernel
theorem dX5_putNumber_14 : decode cX5_putNumber 14 = .ok (.invokevirtual 28, 3) := by decide +kernel
theorem dX5_putNumber_17 : decode cX5_putNumber 17 = .ok (.aload_n 0, 1) := by decide +kernel
theorem dX5_putNumber_18 : decode cX5_putNumber 18 = .ok (.bipush 48, 2) := by decide +kernel
theorem dX5_putNumber_20 : decode cX5_putNumber 20 = .ok (.iload_n 1, 1) := by decide +kernel
theorem dX5_putNumber_21 : decode cX5_putNumber 21 = .ok (.bipush 10, 2) := by decide +kernel
theorem dX5_putNumber_23 : decode cX5_putNumber 23 = .ok (.irem, 1) := by decide +kernel
theorem dX5_putNumber_24 : decode cX5_putNumber 24 = .ok (.iadd, 1) := by decide +kernel
theorem dX5_putNumber_25 : decode cX5_putNumber 25 = .ok (.invokevirtual 28, 3) := by decide +kernel
theorem dX5_putNumber_28 : decode cX5_putNumber 28 = .ok (.return_, 1) := by decide +kernel
theorem dX5_putSpaced_0 : decode cX5_putSpaced 0 = .ok (.aload_n 0, 1) := by decide +kernel
theorem dX5_putSpaced_1 : decode cX5_putSpaced 1 = .ok (.bipush 32, 2) := by decide +kernel
theorem dX5_putSpaced_3 : decode cX5_putSpaced 3 = .ok (.invokevirtual 28, 3) := by decide +kernel
theorem dX5_putSpaced_6 : decode cX5_putSpaced 6 = .ok (.aload_n 0, 1) := by decide +kernel
theorem dX5_putSpaced_7 : decode cX5_putSpaced 7 = .ok (.iload_n 1, 1) := by decide +kernel
theorem dX5_putSpaced_8 : decode cX5_putSpaced 8 = .ok (.invokevirtual 36, 3) := by decide +kernel
theorem dX5_putSpaced_11 : decode cX5_putSpaced 11 = .ok (.return_, 1) := by decide +kernel
theorem dX5_byteAt_0 : decode cX5_byteAt 0 = .ok (.iload_n 1, 1) := by decide +kernel
theorem dX5_byteAt_1 : decode cX5_byteAt 1 = .ok (.ifCond .lt 27, 3) := by decide +kernel
theorem dX5_byteAt_4 : decode cX5_byteAt 4 = .ok (.iload_n 1, 1) := by decide +kernel
theorem dX5_byteAt_5 : decode cX5_byteAt 5 = .ok (.aload_n 0, 1) := by decide +kernel
theorem dX5_byteAt_6 : decode cX5_byteAt 6 = .ok (.getfield 15, 3) := by decide +kernel
theorem dX5_byteAt_9 : decode cX5_byteAt 9 = .ok (.if_icmp .ge 19, 3) := by decide +kernel
theorem dX5_byteAt_12 : decode cX5_byteAt 12 = .ok (.iload_n 1, 1) := by decide +kernel
theorem dX5_byteAt_13 : decode cX5_byteAt 13 = .ok (.sipush 256, 3) := by decide +kernel
theorem dX5_byteAt_16 : decode cX5_byteAt 16 = .ok (.if_icmp .ge 12, 3) := by decide +kernel
theorem dX5_byteAt_19 : decode cX5_byteAt 19 = .ok (.aload_n 0, 1) := by decide +kernel
theorem dX5_byteAt_20 : decode cX5_byteAt 20 = .ok (.getfield 9, 3) := by decide +kernel
theorem dX5_byteAt_23 : decode cX5_byteAt 23 = .ok (.iload_n 1, 1) := by decide +kernel
theorem dX5_byteAt_24 : decode cX5_byteAt 24 = .ok (.iaload, 1) := by decide +kernel
theorem dX5_byteAt_25 : decode cX5_byteAt 25 = .ok (.goto 4, 3) := by decide +kernel
theorem dX5_byteAt_28 : decode cX5_byteAt 28 = .ok (.iconst (-1), 1) := by decide +kernel
theorem dX5_byteAt_29 : decode cX5_byteAt 29 = .ok (.ireturn, 1) := by decide +kernel
theorem dX6_init_0 : decode cX6_init 0 = .ok (.aload_n 0, 1) := by decide +kernel
theorem dX6_init_1 : decode cX6_init 1 = .ok (.invokespecial 3, 3) := by decide +kernel
theorem dX6_init_4 : decode cX6_init 4 = .ok (.aload_n 0, 1) := by decide +kernel
theorem dX6_init_5 : decode cX6_init 5 = .ok (.iconst 0, 1) := by decide +kernel
theorem dX6_init_6 : decode cX6_init 6 = .ok (.putfield 9, 3) := by decide +kernel
theorem dX6_init_9 : decode cX6_init 9 = .ok (.aload_n 0, 1) := by decide +kernel
theorem dX6_init_10 : decode cX6_init 10 = .ok (.iconst 0, 1) := by decide +kernel
theorem dX6_init_11 : decode cX6_init 11 = .ok (.putfield 15, 3) := by decide +kernel
theorem dX6_init_14 : decode cX6_init 14 = .ok (.aload_n 0, 1) := by decide +kernel
theorem dX6_init_15 : decode cX6_init 15 = .ok (.bipush 8, 2) := by decide +kernel
theorem dX6_init_17 : decode cX6_init 17 = .ok (.newarray .int, 2) := by decide +kernel
theorem dX6_init_19 : decode cX6_init 19 = .ok (.putfield 18, 3) := by decide +kernel
theorem dX6_init_22 : decode cX6_init 22 = .ok (.aload_n 0, 1) := by decide +kernel
theorem dX6_init_23 : decode cX6_init 23 = .ok (.bipush 8, 2) := by decide +kernel
theorem dX6_init_25 : decode cX6_init 25 = .ok (.newarray .int, 2) := by decide +kernel
theorem dX6_init_27 : decode cX6_init 27 = .ok (.putfield 22, 3) := by decide +kernel
theorem dX6_init_30 : decode cX6_init 30 = .ok (.aload_n 0, 1) := by decide +kernel
theorem dX6_init_31 : decode cX6_init 31 = .ok (.bipush 8, 2) := by decide +kernel
theorem dX6_init_33 : decode cX6_init 33 = .ok (.newarray .int, 2) := by decide +kernel
theorem dX6_init_35 : decode cX6_init 35 = .ok (.putfield 25, 3) := by decide +kernel
theorem dX6_init_38 : decode cX6_init 38 = .ok (.aload_n 0, 1) := by decide +kernel
theorem dX6_init_39 : decode cX6_init 39 = .ok (.bipush 8, 2) := by decide +kernel
theorem dX6_init_41 : decode cX6_init 41 = .ok (.newarray .int, 2) := by decide +kernel
theorem dX6_init_43 : decode cX6_init 43 = .ok (.putfield 28, 3) := by decide +kernel
theorem dX6_init_46 : decode cX6_init 46 = .ok (.aload_n 0, 1) := by decide +kernel
theorem dX6_init_47 : decode cX6_init 47 = .ok (.bipush 8, 2) := by decide +kernel
theorem dX6_init_49 : decode cX6_init 49 = .ok (.newarray .int, 2) := by decide +kernel
theorem dX6_init_51 : decode cX6_init 51 = .ok (.putfield 31, 3) := by decide +kernel
theorem dX6_init_54 : decode cX6_init 54 = .ok (.return_, 1) := by decide +kernel
theorem dX6_clear_0 : decode cX6_clear 0 = .ok (.aload_n 0, 1) := by decide +kernel
theorem dX6_clear_1 : decode cX6_clear 1 = .ok (.iconst 0, 1) := by decide +kernel
theorem dX6_clear_2 : decode cX6_clear 2 = .ok (.putfield 9, 3) := by decide +kernel
theorem dX6_clear_5 : decode cX6_clear 5 = .ok (.aload_n 0, 1) := by decide +kernel
theorem dX6_clear_6 : decode cX6_clear 6 = .ok (.iconst 0, 1) := by decide +kernel
theorem dX6_clear_7 : decode cX6_clear 7 = .ok (.putfield 15, 3) := by decide +kernel
theorem dX6_clear_10 : decode cX6_clear 10 = .ok (.return_, 1) := by decide +kernel
theorem dX6_copyFrom_0 : decode cX6_copyFrom 0 = .ok (.aload_n 0, 1) := by decide +kernel
theorem dX6_copyFrom_1 : decode cX6_copyFrom 1 = .ok (.aload_n 1, 1) := by decide +kernel
theorem dX6_copyFrom_2 : decode cX6_copyFrom 2 = .ok (.getfield 9, 3) := by decide +kernel
theorem dX6_copyFrom_5 : decode cX6_copyFrom 5 = .ok (.putfield 9, 3) := by decide +kernel
theorem dX6_copyFrom_8 : decode cX6_copyFrom 8 = .ok (.aload_n 0, 1) := by decide +kernel
theorem dX6_copyFrom_9 : decode cX6_copyFrom 9 = .ok (.aload_n 1, 1) := by decide +kernel
theorem dX6_copyFrom_10 : decode cX6_copyFrom 10 = .ok (.getfield 15, 3) := by decide +kernel
theorem dX6_copyFrom_13 : decode cX6_copyFrom 13 = .ok (.putfield 15, 3) := by decide +kernel
theorem dX6_copyFrom_16 : decode cX6_copyFrom 16 = .ok (.aload_n 1, 1) := by decide +kernel
theorem dX6_copyFrom_17 : decode cX6_copyFrom 17 = .ok (.getfield 18, 3) := by decide +kernel
theorem dX6_copyFrom_20 : decode cX6_copyFrom 20 = .ok (.iconst 0, 1) := by decide +kernel
theorem dX6_copyFrom_21 : decode cX6_copyFrom 21 = .ok (.aload_n 0, 1) := by decide +kernel
theorem dX6_copyFrom_22 : decode cX6_copyFrom 22 = .ok (.getfield 18, 3) := by decide +kernel
theorem dX6_copyFrom_25 : decode cX6_copyFrom 25 = .ok (.iconst 0, 1) := by decide +kernel
theorem dX6_copyFrom_26 : decode cX6_copyFrom 26 = .ok (.aload_n 0, 1) := by decide +kernel
theorem dX6_copyFrom_27 : decode cX6_copyFrom 27 = .ok (.getfield 18, 3) := by decide +kernel
theorem dX6_copyFrom_30 : decode cX6_copyFrom 30 = .ok (.arraylength, 1) := by decide +kernel
theorem dX6_copyFrom_31 : decode cX6_copyFrom 31 = .ok (.invokestatic 34, 3) := by decide +kernel
theorem dX6_copyFrom_34 : decode cX6_copyFrom 34 = .ok (.aload_n 1, 1) := by decide +kernel
theorem dX6_copyFrom_35 : decode cX6_copyFrom 35 = .ok (.getfield 22, 3) := by decide +kernel
theorem dX6_copyFrom_38 : decode cX6_copyFrom 38 = .ok (.iconst 0, 1) := by decide +kernel
theorem dX6_copyFrom_39 : decode cX6_copyFrom 39 = .ok (.aload_n 0, 1) := by decide +kernel
theorem dX6_copyFrom_40 : decode cX6_copyFrom 40 = .ok (.getfield 22, 3) := by decide +kernel
theorem dX6_copyFrom_43 : decode cX6_copyFrom 43 = .ok (.iconst 0, 1) := by decide +kernel
theorem dX6_copyFrom_44 : decode cX6_copyFrom 44 = .ok (.aload_n 0, 1) := by decide +kernel
theorem dX6_copyFrom_45 : decode cX6_copyFrom 45 = .ok (.getfield 22, 3) := by decide +kernel
theorem dX6_copyFrom_48 : decode cX6_copyFrom 48 = .ok (.arraylength, 1) := by decide +kernel
theorem dX6_copyFrom_49 : decode cX6_copyFrom 49 = .ok (.invokestatic 34, 3) := by decide +kernel
theorem dX6_copyFrom_52 : decode cX6_copyFrom 52 = .ok (.aload_n 1, 1) := by decide +kernel
theorem dX6_copyFrom_53 : decode cX6_copyFrom 53 = .ok (.getfield 25, 3) := by decide +kernel
theorem dX6_copyFrom_56 : decode cX6_copyFrom 56 = .ok (.iconst 0, 1) := by decide +kernel
theorem dX6_copyFrom_57 : decode cX6_copyFrom 57 = .ok (.aload_n 0, 1) := by decide +kernel
theorem dX6_copyFrom_58 : decode cX6_copyFrom 58 = .ok (.getfield 25, 3) := by decide +kernel
theorem dX6_copyFrom_61 : decode cX6_copyFrom 61 = .ok (.iconst 0, 1) := by decide +kernel
theorem dX6_copyFrom_62 : decode cX6_copyFrom 62 = .ok (.aload_n 0, 1) := by decide +kernel
theorem dX6_copyFrom_63 : decode cX6_copyFrom 63 = .ok (.getfield 25, 3) := by decide +kernel
theorem dX6_copyFrom_66 : decode cX6_copyFrom 66 = .ok (.arraylength, 1) := by decide +kernel
theorem dX6_copyFrom_67 : decode cX6_copyFrom 67 = .ok (.invokestatic 34, 3) := by decide +kernel
theorem dX6_copyFrom_70 : decode cX6_copyFrom 70 = .ok (.aload_n 1, 1) := by decide +kernel
theorem dX6_copyFrom_71 : decode cX6_copyFrom 71 = .ok (.getfield 28, 3) := by decide +kernel
theorem dX6_copyFrom_74 : decode cX6_copyFrom 74 = .ok (.iconst 0, 1) := by decide +kernel
theorem dX6_copyFrom_75 : decode cX6_copyFrom 75 = .ok (.aload_n 0, 1) := by decide +kernel
theorem dX6_copyFrom_76 : decode cX6_copyFrom 76 = .ok (.getfield 28, 3) := by decide +kernel
theorem dX6_copyFrom_79 : decode cX6_copyFrom 79 = .ok (.iconst 0, 1) := by decide +kernel
theorem dX6_copyFrom_80 : decode cX6_copyFrom 80 = .ok (.aload_n 0, 1) := by decide +kernel
theorem dX6_copyFrom_81 : decode cX6_copyFrom 81 = .ok (.getfield 28, 3) := by decide +kernel
theorem dX6_copyFrom_84 : decode cX6_copyFrom 84 = .ok (.arraylength, 1) := by decide +kernel
theorem dX6_copyFrom_85 : decode cX6_copyFrom 85 = .ok (.invokestatic 34, 3) := by decide +kernel
theorem dX6_copyFrom_88 : decode cX6_copyFrom 88 = .ok (.aload_n 1, 1) := by decide +kernel
theorem dX6_copyFrom_89 : decode cX6_copyFrom 89 = .ok (.getfield 31, 3) := by decide +kernel
theorem dX6_copyFrom_92 : decode cX6_copyFrom 92 = .ok (.iconst 0, 1) := by decide +kernel
theorem dX6_copyFrom_93 : decode cX6_copyFrom 93 = .ok (.aload_n 0, 1) := by decide +kernel
theorem dX6_copyFrom_94 : decode cX6_copyFrom 94 = .ok (.getfield 31, 3) := by decide +kernel
theorem dX6_copyFrom_97 : decode cX6_copyFrom 97 = .ok (.iconst 0, 1) := by decide +kernel
theorem dX6_copyFrom_98 : decode cX6_copyFrom 98 = .ok (.aload_n 0, 1) := by decide +kernel
theorem dX6_copyFrom_99 : decode cX6_copyFrom 99 = .ok (.getfield 31, 3) := by decide +kernel
theorem dX6_copyFrom_102 : decode cX6_copyFrom 102 = .ok (.arraylength, 1) := by decide +kernel
theorem dX6_copyFrom_103 : decode cX6_copyFrom 103 = .ok (.invokestatic 34, 3) := by decide +kernel
theorem dX6_copyFrom_106 : decode cX6_copyFrom 106 = .ok (.return_, 1) := by decide +kernel
theorem dX6_addBoard_0 : decode cX6_addBoard 0 = .ok (.aload_n 0, 1) := by decide +kernel
theorem dX6_addBoard_1 : decode cX6_addBoard 1 = .ok (.getfield 9, 3) := by decide +kernel
theorem dX6_addBoard_4 : decode cX6_addBoard 4 = .ok (.iconst 4, 1) := by decide +kernel
theorem dX6_addBoard_5 : decode cX6_addBoard 5 = .ok (.if_icmp .ge 24, 3) := by decide +kernel
theorem dX6_addBoard_8 : decode cX6_addBoard 8 = .ok (.aload_n 0, 1) := by decide +kernel
theorem dX6_addBoard_9 : decode cX6_addBoard 9 = .ok (.aload_n 0, 1) := by decide +kernel
theorem dX6_addBoard_10 : decode cX6_addBoard 10 = .ok (.getfield 9, 3) := by decide +kernel
theorem dX6_addBoard_13 : decode cX6_addBoard 13 = .ok (.iload_n 1, 1) := by decide +kernel
theorem dX6_addBoard_14 : decode cX6_addBoard 14 = .ok (.iload_n 2, 1) := by decide +kernel
theorem dX6_addBoard_15 : decode cX6_addBoard 15 = .ok (.iload_n 3, 1) := by decide +kernel
theorem dX6_addBoard_16 : decode cX6_addBoard 16 = .ok (.invokevirtual 40, 3) := by decide +kernel
theorem dX6_addBoard_19 : decode cX6_addBoard 19 = .ok (.aload_n 0, 1) := by decide +kernel
theorem dX6_addBoard_20 : decode cX6_addBoard 20 = .ok (.dup, 1) := by decide +kernel
theorem dX6_addBoard_21 : decode cX6_addBoard 21 = .ok (.getfield 9, 3) := by decide +kernel
theorem dX6_addBoard_24 : decode cX6_addBoard 24 = .ok (.iconst 1, 1) := by decide +kernel
theorem dX6_addBoard_25 : decode cX6_addBoard 25 = .ok (.iadd, 1) := by decide +kernel
theorem dX6_addBoard_26 : decode cX6_addBoard 26 = .ok (.putfield 9, 3) := by decide +kernel
theorem dX6_addBoard_29 : decode cX6_addBoard 29 = .ok (.return_, 1) := by decide +kernel
theorem dX6_addStick_0 : decode cX6_addStick 0 = .ok (.aload_n 0, 1) := by decide +kernel
theorem dX6_addStick_1 : decode cX6_addStick 1 = .ok (.getfield 15, 3) := by decide +kernel
theorem dX6_addStick_4 : decode cX6_addStick 4 = .ok (.iconst 4, 1) := by decide +kernel
theorem dX6_addStick_5 : decode cX6_addStick 5 = .ok (.if_icmp .ge 26, 3) := by decide +kernel
theorem dX6_addStick_8 : decode cX6_addStick 8 = .ok (.aload_n 0, 1) := by decide +kernel
theorem dX6_addStick_9 : decode cX6_addStick 9 = .ok (.iconst 4, 1) := by decide +kernel
theorem dX6_addStick_10 : decode cX6_addStick 10 = .ok (.aload_n 0, 1) := by decide +kernel
theorem dX6_addStick_11 : decode cX6_addStick 11 = .ok (.getfield 15, 3) := by decide +kernel
theorem dX6_addStick_14 : decode cX6_addStick 14 = .ok (.iadd, 1) := by decide +kernel
theorem dX6_addStick_15 : decode cX6_addStick 15 = .ok (.iload_n 2, 1) := by decide +kernel
theorem dX6_addStick_16 : decode cX6_addStick 16 = .ok (.iload_n 1, 1) := by decide +kernel
theorem dX6_addStick_17 : decode cX6_addStick 17 = .ok (.iconst 0, 1) := by decide +kernel
theorem dX6_addStick_18 : decode cX6_addStick 18 = .ok (.invokevirtual 40, 3) := by decide +kernel
theorem dX6_addStick_21 : decode cX6_addStick 21 = .ok (.aload_n 0, 1) := by decide +kernel
theorem dX6_addStick_22 : decode cX6_addStick 22 = .ok (.dup, 1) := by decide +kernel
theorem dX6_addStick_23 : decode cX6_addStick 23 = .ok (.getfield 15, 3) := by decide +kernel
theorem dX6_addStick_26 : decode cX6_addStick 26 = .ok (.iconst 1, 1) := by decide +kernel
theorem dX6_addStick_27 : decode cX6_addStick 27 = .ok (.iadd, 1) := by decide +kernel
theorem dX6_addStick_28 : decode cX6_addStick 28 = .ok (.putfield 15, 3) := by decide +kernel
theorem dX6_addStick_31 : decode cX6_addStick 31 = .ok (.return_, 1) := by decide +kernel
theorem dX6_putTold_0 : decode cX6_putTold 0 = .ok (.iload_n 1, 1) := by decide +kernel
theorem dX6_putTold_1 : decode cX6_putTold 1 = .ok (.ifCond .lt 49, 3) := by decide +kernel
theorem dX6_putTold_4 : decode cX6_putTold 4 = .ok (.iload_n 1, 1) := by decide +kernel
theorem dX6_putTold_5 : decode cX6_putTold 5 = .ok (.aload_n 0, 1) := by decide +kernel
theorem dX6_putTold_6 : decode cX6_putTold 6 = .ok (.getfield 18, 3) := by decide +kernel
theorem dX6_putTold_9 : decode cX6_putTold 9 = .ok (.arraylength, 1) := by decide +kernel
theorem dX6_putTold_10 : decode cX6_putTold 10 = .ok (.if_icmp .ge 40, 3) := by decide +kernel
theorem dX6_putTold_13 : decode cX6_putTold 13 = .ok (.aload_n 0, 1) := by decide +kernel
theorem dX6_putTold_14 : decode cX6_putTold 14 = .ok (.getfield 18, 3) := by decide +kernel
theorem dX6_putTold_17 : decode cX6_putTold 17 = .ok (.iload_n 1, 1) := by decide +kernel
theorem dX6_putTold_18 : decode cX6_putTold 18 = .ok (.iload_n 2, 1) := by decide +kernel
theorem dX6_putTold_19 : decode cX6_putTold 19 = .ok (.iastore, 1) := by decide +kernel
theorem dX6_putTold_20 : decode cX6_putTold 20 = .ok (.aload_n 0, 1) := by decide +kernel
theorem dX6_putTold_21 : decode cX6_putTold 21 = .ok (.getfield 22, 3) := by decide +kernel
theorem dX6_putTold_24 : decode cX6_putTold 24 = .ok (.iload_n 1, 1) := by decide +kernel
theorem dX6_putTold_25 : decode cX6_putTold 25 = .ok (.iload_n 3, 1) := by decide +kernel
theorem dX6_putTold_26 : decode cX6_putTold 26 = .ok (.iastore, 1) := by decide +kernel
theorem dX6_putTold_27 : decode cX6_putTold 27 = .ok (.aload_n 0, 1) := by decide +kernel
theorem dX6_putTold_28 : decode cX6_putTold 28 = .ok (.getfield 25, 3) := by decide +kernel
theorem dX6_putTold_31 : decode cX6_putTold 31 = .ok (.iload_n 1, 1) := by decide +kernel
theorem dX6_putTold_32 : decode cX6_putTold 32 = .ok (.iload 4, 2) := by decide +kernel
theorem dX6_putTold_34 : decode cX6_putTold 34 = .ok (.iastore, 1) := by decide +kernel
theorem dX6_putTold_35 : decode cX6_putTold 35 = .ok (.aload_n 0, 1) := by decide +kernel
theorem dX6_putTold_36 : decode cX6_putTold 36 = .ok (.getfield 28, 3) := by decide +kernel
theorem dX6_putTold_39 : decode cX6_putTold 39 = .ok (.iload_n 1, 1) := by decide +kernel
theorem dX6_putTold_40 : decode cX6_putTold 40 = .ok (.iload_n 3, 1) := by decide +kernel
theorem dX6_putTold_41 : decode cX6_putTold 41 = .ok (.iastore, 1) := by decide +kernel
theorem dX6_putTold_42 : decode cX6_putTold 42 = .ok (.aload_n 0, 1) := by decide +kernel
theorem dX6_putTold_43 : decode cX6_putTold 43 = .ok (.getfield 31, 3) := by decide +kernel
theorem dX6_putTold_46 : decode cX6_putTold 46 = .ok (.iload_n 1, 1) := by decide +kernel
theorem dX6_putTold_47 : decode cX6_putTold 47 = .ok (.iload 4, 2) := by decide +kernel
theorem dX6_putTold_49 : decode cX6_putTold 49 = .ok (.iastore, 1) := by decide +kernel
theorem dX6_putTold_50 : decode cX6_putTold 50 = .ok (.return_, 1) := by decide +kernel
theorem dX6_many_0 : decode cX6_many 0 = .ok (.aload_n 0, 1) := by decide +kernel
theorem dX6_many_1 : decode cX6_many 1 = .ok (.getfield 9, 3) := by decide +kernel
theorem dX6_many_4 : decode cX6_many 4 = .ok (.aload_n 0, 1) := by decide +kernel
theorem dX6_many_5 : decode cX6_many 5 = .ok (.getfield 15, 3) := by decide +kernel
theorem dX6_many_8 : decode cX6_many 8 = .ok (.iadd, 1) := by decide +kernel
theorem dX6_many_9 : decode cX6_many 9 = .ok (.ireturn, 1) := by decide +kernel
theorem dX6_isBoard_0 : decode cX6_isBoard 0 = .ok (.iload_n 1, 1) := by decide +kernel
theorem dX6_isBoard_1 : decode cX6_isBoard 1 = .ok (.aload_n 0, 1) := by decide +kernel
theorem dX6_isBoard_2 : decode cX6_isBoard 2 = .ok (.getfield 9, 3) := by decide +kernel
theorem dX6_isBoard_5 : decode cX6_isBoard 5 = .ok (.if_icmp .ge 7, 3) := by decide +kernel
theorem dX6_isBoard_8 : decode cX6_isBoard 8 = .ok (.iconst 1, 1) := by decide +kernel
theorem dX6_isBoard_9 : decode cX6_isBoard 9 = .ok (.goto 4, 3) := by decide +kernel
theorem dX6_isBoard_12 : decode cX6_isBoard 12 = .ok (.iconst 0, 1) := by decide +kernel
theorem dX6_isBoard_13 : decode cX6_isBoard 13 = .ok (.ireturn, 1) := by decide +kernel
theorem dX6_at_0 : decode cX6_at 0 = .ok (.iload_n 2, 1) := by decide +kernel
theorem dX6_at_1 : decode cX6_at 1 = .ok (.aload_n 0, 1) := by decide +kernel
theorem dX6_at_2 : decode cX6_at 2 = .ok (.getfield 9, 3) := by decide +kernel
theorem dX6_at_5 : decode cX6_at 5 = .ok (.if_icmp .ge 7, 3) := by decide +kernel
theorem dX6_at_8 : decode cX6_at 8 = .ok (.iload_n 2, 1) := by decide +kernel
theorem dX6_at_9 : decode cX6_at 9 = .ok (.goto 11, 3) := by decide +kernel
theorem dX6_at_12 : decode cX6_at 12 = .ok (.iconst 4, 1) := by decide +kernel
theorem dX6_at_13 : decode cX6_at 13 = .ok (.iload_n 2, 1) := by decide +kernel
theorem dX6_at_14 : decode cX6_at 14 = .ok (.iadd, 1) := by decide +kernel
theorem dX6_at_15 : decode cX6_at 15 = .ok (.aload_n 0, 1) := by decide +kernel
theorem dX6_at_16 : decode cX6_at 16 = .ok (.getfield 9, 3) := by decide +kernel
theorem dX6_at_19 : decode cX6_at 19 = .ok (.isub, 1) := by decide +kernel
theorem dX6_at_20 : decode cX6_at 20 = .ok (.istore_n 3, 1) := by decide +kernel
theorem dX6_at_21 : decode cX6_at 21 = .ok (.iload_n 3, 1) := by decide +kernel
theorem dX6_at_22 : decode cX6_at 22 = .ok (.ifCond .lt 15, 3) := by decide +kernel
theorem dX6_at_25 : decode cX6_at 25 = .ok (.iload_n 3, 1) := by decide +kernel
theorem dX6_at_26 : decode cX6_at 26 = .ok (.aload_n 1, 1) := by decide +kernel
theorem dX6_at_27 : decode cX6_at 27 = .ok (.arraylength, 1) := by decide +kernel
theorem dX6_at_28 : decode cX6_at 28 = .ok (.if_icmp .ge 9, 3) := by decide +kernel
theorem dX6_at_31 : decode cX6_at 31 = .ok (.aload_n 1, 1) := by decide +kernel
theorem dX6_at_32 : decode cX6_at 32 = .ok (.iload_n 3, 1) := by decide +kernel
theorem dX6_at_33 : decode cX6_at 33 = .ok (.iaload, 1) := by decide +kernel
theorem dX6_at_34 : decode cX6_at 34 = .ok (.goto 4, 3) := by decide +kernel
theorem dX6_at_37 : decode cX6_at 37 = .ok (.iconst 0, 1) := by decide +kernel
theorem dX6_at_38 : decode cX6_at 38 = .ok (.ireturn, 1) := by decide +kernel
theorem dX6_kindOf_0 : decode cX6_kindOf 0 = .ok (.aload_n 0, 1) := by decide +kernel
theorem dX6_kindOf_1 : decode cX6_kindOf 1 = .ok (.aload_n 0, 1) := by decide +kernel
theorem dX6_kindOf_2 : decode cX6_kindOf 2 = .ok (.getfield 18, 3) := by decide +kernel
theorem dX6_kindOf_5 : decode cX6_kindOf 5 = .ok (.iload_n 1, 1) := by decide +kernel
theorem dX6_kindOf_6 : decode cX6_kindOf 6 = .ok (.invokevirtual 44, 3) := by decide +kernel
theorem dX6_kindOf_9 : decode cX6_kindOf 9 = .ok (.ireturn, 1) := by decide +kernel
theorem dX6_firstOf_0 : decode cX6_firstOf 0 = .ok (.aload_n 0, 1) := by decide +kernel
theorem dX6_firstOf_1 : decode cX6_firstOf 1 = .ok (.aload_n 0, 1) := by decide +kernel
theorem dX6_firstOf_2 : decode cX6_firstOf 2 = .ok (.getfield 22, 3) := by decide +kernel
theorem dX6_firstOf_5 : decode cX6_firstOf 5 = .ok (.iload_n 1, 1) := by decide +kernel
theorem dX6_firstOf_6 : decode cX6_firstOf 6 = .ok (.invokevirtual 44, 3) := by decide +kernel
theorem dX6_firstOf_9 : decode cX6_firstOf 9 = .ok (.ireturn, 1) := by decide +kernel
theorem dX6_secondOf_0 : decode cX6_secondOf 0 = .ok (.aload_n 0, 1) := by decide +kernel
theorem dX6_secondOf_1 : decode cX6_secondOf 1 = .ok (.aload_n 0, 1) := by decide +kernel
theorem dX6_secondOf_2 : decode cX6_secondOf 2 = .ok (.getfield 25, 3) := by decide +kernel
theorem dX6_secondOf_5 : decode cX6_secondOf 5 = .ok (.iload_n 1, 1) := by decide +kernel
theorem dX6_secondOf_6 : decode cX6_secondOf 6 = .ok (.invokevirtual 44, 3) := by decide +kernel
theorem dX6_secondOf_9 : decode cX6_secondOf 9 = .ok (.ireturn, 1) := by decide +kernel
theorem dX6_toldFirstOf_0 : decode cX6_toldFirstOf 0 = .ok (.aload_n 0, 1) := by decide +kernel
theorem dX6_toldFirstOf_1 : decode cX6_toldFirstOf 1 = .ok (.aload_n 0, 1) := by decide +kernel
theorem dX6_toldFirstOf_2 : decode cX6_toldFirstOf 2 = .ok (.getfield 28, 3) := by decide +kernel
theorem dX6_toldFirstOf_5 : decode cX6_toldFirstOf 5 = .ok (.iload_n 1, 1) := by decide +kernel
theorem dX6_toldFirstOf_6 : decode cX6_toldFirstOf 6 = .ok (.invokevirtual 44, 3) := by decide +kernel
theorem dX6_toldFirstOf_9 : decode cX6_toldFirstOf 9 = .ok (.ireturn, 1) := by decide +kernel
theorem dX6_toldSecondOf_0 : decode cX6_toldSecondOf 0 = .ok (.aload_n 0, 1) := by decide +kernel
theorem dX6_toldSecondOf_1 : decode cX6_toldSecondOf 1 = .ok (.aload_n 0, 1) := by decide +kernel
theorem dX6_toldSecondOf_2 : decode cX6_toldSecondOf 2 = .ok (.getfield 31, 3) := by decide +kernel
theorem dX6_toldSecondOf_5 : decode cX6_toldSecondOf 5 = .ok (.iload_n 1, 1) := by decide +kernel
theorem dX6_toldSecondOf_6 : decode cX6_toldSecondOf 6 = .ok (.invokevirtual 44, 3) := by decide +kernel
theorem dX6_toldSecondOf_9 : decode cX6_toldSecondOf 9 = .ok (.ireturn, 1) := by decide +kernel
theorem dX6_take_0 : decode cX6_take 0 = .ok (.iload_n 1, 1) := by decide +kernel
theorem dX6_take_1 : decode cX6_take 1 = .ok (.aload_n 0, 1) := by decide +kernel
theorem dX6_take_2 : decode cX6_take 2 = .ok (.getfield 9, 3) := by decide +kernel
theorem dX6_take_5 : decode cX6_take 5 = .ok (.if_icmp .ge 7, 3) := by decide +kernel
theorem dX6_take_8 : decode cX6_take 8 = .ok (.iload_n 1, 1) := by decide +kernel
theorem dX6_take_9 : decode cX6_take 9 = .ok (.goto 11, 3) := by decide +kernel
theorem dX6_take_12 : decode cX6_take 12 = .ok (.iconst 4, 1) := by decide +kernel
theorem dX6_take_13 : decode cX6_take 13 = .ok (.iload_n 1, 1) := by decide +kernel
theorem dX6_take_14 : decode cX6_take 14 = .ok (.iadd, 1) := by decide +kernel
theorem dX6_take_15 : decode cX6_take 15 = .ok (.aload_n 0, 1) := by decide +kernel
theorem dX6_take_16 : decode cX6_take 16 = .ok (.getfield 9, 3) := by decide +kernel
theorem dX6_take_19 : decode cX6_take 19 = .ok (.isub, 1) := by decide +kernel
theorem dX6_take_20 : decode cX6_take 20 = .ok (.istore 4, 2) := by decide +kernel
theorem dX6_take_22 : decode cX6_take 22 = .ok (.iload 4, 2) := by decide +kernel
theorem dX6_take_24 : decode cX6_take 24 = .ok (.ifCond .lt 35, 3) := by decide +kernel
theorem dX6_take_27 : decode cX6_take 27 = .ok (.iload 4, 2) := by decide +kernel
theorem dX6_take_29 : decode cX6_take 29 = .ok (.aload_n 0, 1) := by decide +kernel
theorem dX6_take_30 : decode cX6_take 30 = .ok (.getfield 22, 3) := by decide +kernel
theorem dX6_take_33 : decode cX6_take 33 = .ok (.arraylength, 1) := by decide +kernel
theorem dX6_take_34 : decode cX6_take 34 = .ok (.if_icmp .ge 25, 3) := by decide +kernel
theorem dX6_take_37 : decode cX6_take 37 = .ok (.aload_n 0, 1) := by decide +kernel
theorem dX6_take_38 : decode cX6_take 38 = .ok (.getfield 22, 3) := by decide +kernel
theorem dX6_take_41 : decode cX6_take 41 = .ok (.iload 4, 2) := by decide +kernel
theorem dX6_take_43 : decode cX6_take 43 = .ok (.dup2, 1) := by decide +kernel
theorem dX6_take_44 : decode cX6_take 44 = .ok (.iaload, 1) := by decide +kernel
theorem dX6_take_45 : decode cX6_take 45 = .ok (.iload_n 2, 1) := by decide +kernel
theorem dX6_take_46 : decode cX6_take 46 = .ok (.isub, 1) := by decide +kernel
theorem dX6_take_47 : decode cX6_take 47 = .ok (.iastore, 1) := by decide +kernel
theorem dX6_take_48 : decode cX6_take 48 = .ok (.aload_n 0, 1) := by decide +kernel
theorem dX6_take_49 : decode cX6_take 49 = .ok (.getfield 25, 3) := by decide +kernel
theorem dX6_take_52 : decode cX6_take 52 = .ok (.iload 4, 2) := by decide +kernel
theorem dX6_take_54 : decode cX6_take 54 = .ok (.dup2, 1) := by decide +kernel
theorem dX6_take_55 : decode cX6_take 55 = .ok (.iaload, 1) := by decide +kernel
theorem dX6_take_56 : decode cX6_take 56 = .ok (.iload_n 3, 1) := by decide +kernel
theorem dX6_take_57 : decode cX6_take 57 = .ok (.isub, 1) := by decide +kernel
theorem dX6_take_58 : decode cX6_take 58 = .ok (.iastore, 1) := by decide +kernel
theorem dX6_take_59 : decode cX6_take 59 = .ok (.return_, 1) := by decide +kernel
theorem dX6_standAsTold_0 : decode cX6_standAsTold 0 = .ok (.aload_n 0, 1) := by decide +kernel
theorem dX6_standAsTold_1 : decode cX6_standAsTold 1 = .ok (.getfield 28, 3) := by decide +kernel
theorem dX6_standAsTold_4 : decode cX6_standAsTold 4 = .ok (.iconst 0, 1) := by decide +kernel
theorem dX6_standAsTold_5 : decode cX6_standAsTold 5 = .ok (.aload_n 0, 1) := by decide +kernel
theorem dX6_standAsTold_6 : decode cX6_standAsTold 6 = .ok (.getfield 22, 3) := by decide +kernel
theorem dX6_standAsTold_9 : decode cX6_standAsTold 9 = .ok (.iconst 0, 1) := by decide +kernel
theorem dX6_standAsTold_10 : decode cX6_standAsTold 10 = .ok (.aload_n 0, 1) := by decide +kernel
theorem dX6_standAsTold_11 : decode cX6_standAsTold 11 = .ok (.getfield 22, 3) := by decide +kernel
theorem dX6_standAsTold_14 : decode cX6_standAsTold 14 = .ok (.arraylength, 1) := by decide +kernel
theorem dX6_standAsTold_15 : decode cX6_standAsTold 15 = .ok (.invokestatic 34, 3) := by decide +kernel
theorem dX6_standAsTold_18 : decode cX6_standAsTold 18 = .ok (.aload_n 0, 1) := by decide +kernel
theorem dX6_standAsTold_19 : decode cX6_standAsTold 19 = .ok (.getfield 31, 3) := by decide +kernel
theorem dX6_standAsTold_22 : decode cX6_standAsTold 22 = .ok (.iconst 0, 1) := by decide +kernel
theorem dX6_standAsTold_23 : decode cX6_standAsTold 23 = .ok (.aload_n 0, 1) := by decide +kernel
theorem dX6_standAsTold_24 : decode cX6_standAsTold 24 = .ok (.getfield 25, 3) := by decide +kernel
theorem dX6_standAsTold_27 : decode cX6_standAsTold 27 = .ok (.iconst 0, 1) := by decide +kernel
theorem dX6_standAsTold_28 : decode cX6_standAsTold 28 = .ok (.aload_n 0, 1) := by decide +kernel
theorem dX6_standAsTold_29 : decode cX6_standAsTold 29 = .ok (.getfield 25, 3) := by decide +kernel
theorem dX6_standAsTold_32 : decode cX6_standAsTold 32 = .ok (.arraylength, 1) := by decide +kernel
theorem dX6_standAsTold_33 : decode cX6_standAsTold 33 = .ok (.invokestatic 34, 3) := by decide +kernel
theorem dX6_standAsTold_36 : decode cX6_standAsTold 36 = .ok (.return_, 1) := by decide +kernel
theorem dX6_units_0 : decode cX6_units 0 = .ok (.iconst 0, 1) := by decide +kernel
theorem dX6_units_1 : decode cX6_units 1 = .ok (.istore_n 1, 1) := by decide +kernel
theorem dX6_units_2 : decode cX6_units 2 = .ok (.iconst 0, 1) := by decide +kernel
theorem dX6_units_3 : decode cX6_units 3 = .ok (.istore_n 2, 1) := by decide +kernel
theorem dX6_units_4 : decode cX6_units 4 = .ok (.iload_n 2, 1) := by decide +kernel
theorem dX6_units_5 : decode cX6_units 5 = .ok (.aload_n 0, 1) := by decide +kernel
theorem dX6_units_6 : decode cX6_units 6 = .ok (.invokevirtual 48, 3) := by decide +kernel
theorem dX6_units_9 : decode cX6_units 9 = .ok (.if_icmp .ge 23, 3) := by decide +kernel
theorem dX6_units_12 : decode cX6_units 12 = .ok (.iload_n 1, 1) := by decide +kernel
theorem dX6_units_13 : decode cX6_units 13 = .ok (.aload_n 0, 1) := by decide +kernel
theorem dX6_units_14 : decode cX6_units 14 = .ok (.iload_n 2, 1) := by decide +kernel
theorem dX6_units_15 : decode cX6_units 15 = .ok (.invokevirtual 52, 3) := by decide +kernel
theorem dX6_units_18 : decode cX6_units 18 = .ok (.aload_n 0, 1) := by decide +kernel
theorem dX6_units_19 : decode cX6_units 19 = .ok (.iload_n 2, 1) := by decide +kernel
theorem dX6_units_20 : decode cX6_units 20 = .ok (.invokevirtual 56, 3) := by decide +kernel
theorem dX6_units_23 : decode cX6_units 23 = .ok (.iadd, 1) := by decide +kernel
theorem dX6_units_24 : decode cX6_units 24 = .ok (.iadd, 1) := by decide +kernel
theorem dX6_units_25 : decode cX6_units 25 = .ok (.istore_n 1, 1) := by decide +kernel
theorem dX6_units_26 : decode cX6_units 26 = .ok (.iinc 2 1, 3) := by decide +kernel
theorem dX6_units_29 : decode cX6_units 29 = .ok (.goto (-25), 3) := by decide +kernel
theorem dX6_units_32 : decode cX6_units 32 = .ok (.iload_n 1, 1) := by decide +kernel
theorem dX6_units_33 : decode cX6_units 33 = .ok (.ireturn, 1) := by decide +kernel
theorem dX6_boardsWith_0 : decode cX6_boardsWith 0 = .ok (.iconst 0, 1) := by decide +kernel
theorem dX6_boardsWith_1 : decode cX6_boardsWith 1 = .ok (.istore_n 2, 1) := by decide +kernel
theorem dX6_boardsWith_2 : decode cX6_boardsWith 2 = .ok (.iconst 0, 1) := by decide +kernel
theorem dX6_boardsWith_3 : decode cX6_boardsWith 3 = .ok (.istore_n 3, 1) := by decide +kernel
theorem dX6_boardsWith_4 : decode cX6_boardsWith 4 = .ok (.iload_n 3, 1) := by decide +kernel
theorem dX6_boardsWith_5 : decode cX6_boardsWith 5 = .ok (.aload_n 0, 1) := by decide +kernel
theorem dX6_boardsWith_6 : decode cX6_boardsWith 6 = .ok (.getfield 9, 3) := by decide +kernel
theorem dX6_boardsWith_9 : decode cX6_boardsWith 9 = .ok (.if_icmp .ge 21, 3) := by decide +kernel
theorem dX6_boardsWith_12 : decode cX6_boardsWith 12 = .ok (.aload_n 0, 1) := by decide +kernel
theorem dX6_boardsWith_13 : decode cX6_boardsWith 13 = .ok (.iload_n 3, 1) := by decide +kernel
theorem dX6_boardsWith_14 : decode cX6_boardsWith 14 = .ok (.invokevirtual 59, 3) := by decide +kernel
theorem dX6_boardsWith_17 : decode cX6_boardsWith 17 = .ok (.iload_n 1, 1) := by decide +kernel
theorem dX6_boardsWith_18 : decode cX6_boardsWith 18 = .ok (.if_icmp .ne 6, 3) := by decide +kernel
theorem dX6_boardsWith_21 : decode cX6_boardsWith 21 = .ok (.iinc 2 1, 3) := by decide +kernel
theorem dX6_boardsWith_24 : decode cX6_boardsWith 24 = .ok (.iinc 3 1, 3) := by decide +kernel
theorem dX6_boardsWith_27 : decode cX6_boardsWith 27 = .ok (.goto (-23), 3) := by decide +kernel
theorem dX6_boardsWith_30 : decode cX6_boardsWith 30 = .ok (.iload_n 2, 1) := by decide +kernel
theorem dX6_boardsWith_31 : decode cX6_boardsWith 31 = .ok (.ireturn, 1) := by decide +kernel
theorem dX7_init_0 : decode cX7_init 0 = .ok (.aload_n 0, 1) := by decide +kernel
theorem dX7_init_1 : decode cX7_init 1 = .ok (.invokespecial 3, 3) := by decide +kernel
theorem dX7_init_4 : decode cX7_init 4 = .ok (.aload_n 0, 1) := by decide +kernel
theorem dX7_init_5 : decode cX7_init 5 = .ok (.lconst 0, 1) := by decide +kernel
theorem dX7_init_6 : decode cX7_init 6 = .ok (.putfield 9, 3) := by decide +kernel
theorem dX7_init_9 : decode cX7_init 9 = .ok (.aload_n 0, 1) := by decide +kernel
theorem dX7_init_10 : decode cX7_init 10 = .ok (.lconst 0, 1) := by decide +kernel
theorem dX7_init_11 : decode cX7_init 11 = .ok (.putfield 15, 3) := by decide +kernel
theorem dX7_init_14 : decode cX7_init 14 = .ok (.aload_n 0, 1) := by decide +kernel
theorem dX7_init_15 : decode cX7_init 15 = .ok (.iconst 1, 1) := by decide +kernel
theorem dX7_init_16 : decode cX7_init 16 = .ok (.putfield 18, 3) := by decide +kernel
theorem dX7_init_19 : decode cX7_init 19 = .ok (.aload_n 0, 1) := by decide +kernel
theorem dX7_init_20 : decode cX7_init 20 = .ok (.bipush 40, 2) := by decide +kernel
theorem dX7_init_22 : decode cX7_init 22 = .ok (.putfield 22, 3) := by decide +kernel
theorem dX7_init_25 : decode cX7_init 25 = .ok (.aload_n 0, 1) := by decide +kernel
theorem dX7_init_26 : decode cX7_init 26 = .ok (.iconst 0, 1) := by decide +kernel
theorem dX7_init_27 : decode cX7_init 27 = .ok (.putfield 25, 3) := by decide +kernel
theorem dX7_init_30 : decode cX7_init 30 = .ok (.aload_n 0, 1) := by decide +kernel
theorem dX7_init_31 : decode cX7_init 31 = .ok (.iconst 5, 1) := by decide +kernel
theorem dX7_init_32 : decode cX7_init 32 = .ok (.newarray .int, 2) := by decide +kernel
theorem dX7_init_34 : decode cX7_init 34 = .ok (.putfield 28, 3) := by decide +kernel
theorem dX7_init_37 : decode cX7_init 37 = .ok (.return_, 1) := by decide +kernel
theorem dX7_begin_0 : decode cX7_begin 0 = .ok (.aload_n 0, 1) := by decide +kernel
theorem dX7_begin_1 : decode cX7_begin 1 = .ok (.lload_n 1, 1) := by decide +kernel
theorem dX7_begin_2 : decode cX7_begin 2 = .ok (.putfield 9, 3) := by decide +kernel
theorem dX7_begin_5 : decode cX7_begin 5 = .ok (.aload_n 0, 1) := by decide +kernel
theorem dX7_begin_6 : decode cX7_begin 6 = .ok (.lconst 0, 1) := by decide +kernel
theorem dX7_begin_7 : decode cX7_begin 7 = .ok (.putfield 15, 3) := by decide +kernel
theorem dX7_begin_10 : decode cX7_begin 10 = .ok (.aload_n 0, 1) := by decide +kernel
theorem dX7_begin_11 : decode cX7_begin 11 = .ok (.iconst 1, 1) := by decide +kernel
theorem dX7_begin_12 : decode cX7_begin 12 = .ok (.putfield 18, 3) := by decide +kernel
theorem dX7_begin_15 : decode cX7_begin 15 = .ok (.aload_n 0, 1) := by decide +kernel
theorem dX7_begin_16 : decode cX7_begin 16 = .ok (.bipush 40, 2) := by decide +kernel
theorem dX7_begin_18 : decode cX7_begin 18 = .ok (.putfield 22, 3) := by decide +kernel
theorem dX7_begin_21 : decode cX7_begin 21 = .ok (.aload_n 0, 1) := by decide +kernel
theorem dX7_begin_22 : decode cX7_begin 22 = .ok (.iconst 0, 1) := by decide +kernel
theorem dX7_begin_23 : decode cX7_begin 23 = .ok (.putfield 25, 3) := by decide +kernel
theorem dX7_begin_26 : decode cX7_begin 26 = .ok (.return_, 1) := by decide +kernel
theorem dX7_copyFrom_0 : decode cX7_copyFrom 0 = .ok (.aload_n 0, 1) := by decide +kernel
theorem dX7_copyFrom_1 : decode cX7_copyFrom 1 = .ok (.aload_n 1, 1) := by decide +kernel
theorem dX7_copyFrom_2 : decode cX7_copyFrom 2 = .ok (.getfield 9, 3) := by decide +kernel
theorem dX7_copyFrom_5 : decode cX7_copyFrom 5 = .ok (.putfield 9, 3) := by decide +kernel
theorem dX7_copyFrom_8 : decode cX7_copyFrom 8 = .ok (.aload_n 0, 1) := by decide +kernel
theorem dX7_copyFrom_9 : decode cX7_copyFrom 9 = .ok (.aload_n 1, 1) := by decide +kernel
theorem dX7_copyFrom_10 : decode cX7_copyFrom 10 = .ok (.getfield 15, 3) := by decide +kernel
theorem dX7_copyFrom_13 : decode cX7_copyFrom 13 = .ok (.putfield 15, 3) := by decide +kernel
theorem dX7_copyFrom_16 : decode cX7_copyFrom 16 = .ok (.aload_n 0, 1) := by decide +kernel
theorem dX7_copyFrom_17 : decode cX7_copyFrom 17 = .ok (.aload_n 1, 1) := by decide +kernel
theorem dX7_copyFrom_18 : decode cX7_copyFrom 18 = .ok (.getfield 18, 3) := by decide +kernel
theorem dX7_copyFrom_21 : decode cX7_copyFrom 21 = .ok (.putfield 18, 3) := by decide +kernel
theorem dX7_copyFrom_24 : decode cX7_copyFrom 24 = .ok (.aload_n 0, 1) := by decide +kernel
theorem dX7_copyFrom_25 : decode cX7_copyFrom 25 = .ok (.aload_n 1, 1) := by decide +kernel
theorem dX7_copyFrom_26 : decode cX7_copyFrom 26 = .ok (.getfield 22, 3) := by decide +kernel
theorem dX7_copyFrom_29 : decode cX7_copyFrom 29 = .ok (.putfield 22, 3) := by decide +kernel
theorem dX7_copyFrom_32 : decode cX7_copyFrom 32 = .ok (.aload_n 0, 1) := by decide +kernel
theorem dX7_copyFrom_33 : decode cX7_copyFrom 33 = .ok (.aload_n 1, 1) := by decide +kernel
theorem dX7_copyFrom_34 : decode cX7_copyFrom 34 = .ok (.getfield 25, 3) := by decide +kernel
theorem dX7_copyFrom_37 : decode cX7_copyFrom 37 = .ok (.putfield 25, 3) := by decide +kernel
theorem dX7_copyFrom_40 : decode cX7_copyFrom 40 = .ok (.aload_n 1, 1) := by decide +kernel
theorem dX7_copyFrom_41 : decode cX7_copyFrom 41 = .ok (.getfield 28, 3) := by decide +kernel
theorem dX7_copyFrom_44 : decode cX7_copyFrom 44 = .ok (.iconst 0, 1) := by decide +kernel
theorem dX7_copyFrom_45 : decode cX7_copyFrom 45 = .ok (.aload_n 0, 1) := by decide +kernel
theorem dX7_copyFrom_46 : decode cX7_copyFrom 46 = .ok (.getfield 28, 3) := by decide +kernel
theorem dX7_copyFrom_49 : decode cX7_copyFrom 49 = .ok (.iconst 0, 1) := by decide +kernel
theorem dX7_copyFrom_50 : decode cX7_copyFrom 50 = .ok (.aload_n 0, 1) := by decide +kernel
theorem dX7_copyFrom_51 : decode cX7_copyFrom 51 = .ok (.getfield 28, 3) := by decide +kernel
theorem dX7_copyFrom_54 : decode cX7_copyFrom 54 = .ok (.arraylength, 1) := by decide +kernel
theorem dX7_copyFrom_55 : decode cX7_copyFrom 55 = .ok (.invokestatic 32, 3) := by decide +kernel
theorem dX7_copyFrom_58 : decode cX7_copyFrom 58 = .ok (.return_, 1) := by decide +kernel
theorem dX7_hasMovesOf_0 : decode cX7_hasMovesOf 0 = .ok (.aload_n 0, 1) := by decide +kernel
theorem dX7_hasMovesOf_1 : decode cX7_hasMovesOf 1 = .ok (.getfield 15, 3) := by decide +kernel
theorem dX7_hasMovesOf_4 : decode cX7_hasMovesOf 4 = .ok (.aload_n 1, 1) := by decide +kernel
theorem dX7_hasMovesOf_5 : decode cX7_hasMovesOf 5 = .ok (.getfield 15, 3) := by decide +kernel
theorem dX7_hasMovesOf_8 : decode cX7_hasMovesOf 8 = .ok (.lcmp, 1) := by decide +kernel
theorem dX7_hasMovesOf_9 : decode cX7_hasMovesOf 9 = .ok (.ifCond .ne 36, 3) := by decide +kernel
theorem dX7_hasMovesOf_12 : decode cX7_hasMovesOf 12 = .ok (.aload_n 0, 1) := by decide +kernel
theorem dX7_hasMovesOf_13 : decode cX7_hasMovesOf 13 = .ok (.getfield 18, 3) := by decide +kernel
theorem dX7_hasMovesOf_16 : decode cX7_hasMovesOf 16 = .ok (.aload_n 1, 1) := by decide +kernel
theorem dX7_hasMovesOf_17 : decode cX7_hasMovesOf 17 = .ok (.getfield 18, 3) := by decide +kernel
theorem dX7_hasMovesOf_20 : decode cX7_hasMovesOf 20 = .ok (.if_icmp .ne 25, 3) := by decide +kernel
theorem dX7_hasMovesOf_23 : decode cX7_hasMovesOf 23 = .ok (.aload_n 0, 1) := by decide +kernel
theorem dX7_hasMovesOf_24 : decode cX7_hasMovesOf 24 = .ok (.getfield 22, 3) := by decide +kernel
theorem dX7_hasMovesOf_27 : decode cX7_hasMovesOf 27 = .ok (.aload_n 1, 1) := by decide +kernel
theorem dX7_hasMovesOf_28 : decode cX7_hasMovesOf 28 = .ok (.getfield 22, 3) := by decide +kernel
theorem dX7_hasMovesOf_31 : decode cX7_hasMovesOf 31 = .ok (.if_icmp .ne 14, 3) := by decide +kernel
theorem dX7_hasMovesOf_34 : decode cX7_hasMovesOf 34 = .ok (.aload_n 0, 1) := by decide +kernel
theorem dX7_hasMovesOf_35 : decode cX7_hasMovesOf 35 = .ok (.getfield 25, 3) := by decide +kernel
theorem dX7_hasMovesOf_38 : decode cX7_hasMovesOf 38 = .ok (.aload_n 1, 1) := by decide +kernel
theorem dX7_hasMovesOf_39 : decode cX7_hasMovesOf 39 = .ok (.getfield 25, 3) := by decide +kernel
theorem dX7_hasMovesOf_42 : decode cX7_hasMovesOf 42 = .ok (.if_icmp .eq 5, 3) := by decide +kernel
theorem dX7_hasMovesOf_45 : decode cX7_hasMovesOf 45 = .ok (.iconst 0, 1) := by decide +kernel
theorem dX7_hasMovesOf_46 : decode cX7_hasMovesOf 46 = .ok (.ireturn, 1) := by decide +kernel
theorem dX7_hasMovesOf_47 : decode cX7_hasMovesOf 47 = .ok (.iconst 0, 1) := by decide +kernel
theorem dX7_hasMovesOf_48 : decode cX7_hasMovesOf 48 = .ok (.istore_n 2, 1) := by decide +kernel
theorem dX7_hasMovesOf_49 : decode cX7_hasMovesOf 49 = .ok (.iload_n 2, 1) := by decide +kernel
theorem dX7_hasMovesOf_50 : decode cX7_hasMovesOf 50 = .ok (.aload_n 0, 1) := by decide +kernel
theorem dX7_hasMovesOf_51 : decode cX7_hasMovesOf 51 = .ok (.getfield 25, 3) := by decide +kernel
theorem dX7_hasMovesOf_54 : decode cX7_hasMovesOf 54 = .ok (.if_icmp .ge 35, 3) := by decide +kernel
theorem dX7_hasMovesOf_57 : decode cX7_hasMovesOf 57 = .ok (.iload_n 2, 1) := by decide +kernel
theorem dX7_hasMovesOf_58 : decode cX7_hasMovesOf 58 = .ok (.aload_n 0, 1) := by decide +kernel
theorem dX7_hasMovesOf_59 : decode cX7_hasMovesOf 59 = .ok (.getfield 28, 3) := by decide +kernel
theorem dX7_hasMovesOf_62 : decode cX7_hasMovesOf 62 = .ok (.arraylength, 1) := by decide +kernel
theorem dX7_hasMovesOf_63 : decode cX7_hasMovesOf 63 = .ok (.if_icmp .ge 26, 3) := by decide +kernel
theorem dX7_hasMovesOf_66 : decode cX7_hasMovesOf 66 = .ok (.aload_n 0, 1) := by decide +kernel
theorem dX7_hasMovesOf_67 : decode cX7_hasMovesOf 67 = .ok (.getfield 28, 3) := by decide +kernel
theorem dX7_hasMovesOf_70 : decode cX7_hasMovesOf 70 = .ok (.iload_n 2, 1) := by decide +kernel
theorem dX7_hasMovesOf_71 : decode cX7_hasMovesOf 71 = .ok (.iaload, 1) := by decide +kernel
theorem dX7_hasMovesOf_72 : decode cX7_hasMovesOf 72 = .ok (.aload_n 1, 1) := by decide +kernel
theorem dX7_hasMovesOf_73 : decode cX7_hasMovesOf 73 = .ok (.getfield 28, 3) := by decide +kernel
theorem dX7_hasMovesOf_76 : decode cX7_hasMovesOf 76 = .ok (.iload_n 2, 1) := by decide +kernel
theorem dX7_hasMovesOf_77 : decode cX7_hasMovesOf 77 = .ok (.iaload, 1) := by decide +kernel
theorem dX7_hasMovesOf_78 : decode cX7_hasMovesOf 78 = .ok (.if_icmp .eq 5, 3) := by decide +kernel
theorem dX7_hasMovesOf_81 : decode cX7_hasMovesOf 81 = .ok (.iconst 0, 1) := by decide +kernel
theorem dX7_hasMovesOf_82 : decode cX7_hasMovesOf 82 = .ok (.ireturn, 1) := by decide +kernel
theorem dX7_hasMovesOf_83 : decode cX7_hasMovesOf 83 = .ok (.iinc 2 1, 3) := by decide +kernel
theorem dX7_hasMovesOf_86 : decode cX7_hasMovesOf 86 = .ok (.goto (-37), 3) := by decide +kernel
theorem dX7_hasMovesOf_89 : decode cX7_hasMovesOf 89 = .ok (.iconst 1, 1) := by decide +kernel
theorem dX7_hasMovesOf_90 : decode cX7_hasMovesOf 90 = .ok (.ireturn, 1) := by decide +kernel
theorem dX7_isFree_0 : decode cX7_isFree 0 = .ok (.aload_n 0, 1) := by decide +kernel
theorem dX7_isFree_1 : decode cX7_isFree 1 = .ok (.getfield 15, 3) := by decide +kernel
theorem dX7_isFree_4 : decode cX7_isFree 4 = .ok (.lconst 0, 1) := by decide +kernel
theorem dX7_isFree_5 : decode cX7_isFree 5 = .ok (.lcmp, 1) := by decide +kernel
theorem dX7_isFree_6 : decode cX7_isFree 6 = .ok (.ifCond .ne 30, 3) := by decide +kernel
theorem dX7_isFree_9 : decode cX7_isFree 9 = .ok (.aload_n 0, 1) := by decide +kernel
theorem dX7_isFree_10 : decode cX7_isFree 10 = .ok (.getfield 22, 3) := by decide +kernel
theorem dX7_isFree_13 : decode cX7_isFree 13 = .ok (.bipush 40, 2) := by decide +kernel
theorem dX7_isFree_15 : decode cX7_isFree 15 = .ok (.if_icmp .ne 21, 3) := by decide +kernel
theorem dX7_isFree_18 : decode cX7_isFree 18 = .ok (.aload_n 0, 1) := by decide +kernel
theorem dX7_isFree_19 : decode cX7_isFree 19 = .ok (.getfield 18, 3) := by decide +kernel
theorem dX7_isFree_22 : decode cX7_isFree 22 = .ok (.ifCond .le 14, 3) := by decide +kernel
theorem dX7_isFree_25 : decode cX7_isFree 25 = .ok (.aload_n 0, 1) := by decide +kernel
theorem dX7_isFree_26 : decode cX7_isFree 26 = .ok (.getfield 25, 3) := by decide +kernel
theorem dX7_isFree_29 : decode cX7_isFree 29 = .ok (.ifCond .ne 7, 3) := by decide +kernel
theorem dX7_isFree_32 : decode cX7_isFree 32 = .ok (.iconst 1, 1) := by decide +kernel
theorem dX7_isFree_33 : decode cX7_isFree 33 = .ok (.goto 4, 3) := by decide +kernel
theorem dX7_isFree_36 : decode cX7_isFree 36 = .ok (.iconst 0, 1) := by decide +kernel
theorem dX7_isFree_37 : decode cX7_isFree 37 = .ok (.ireturn, 1) := by decide +kernel
theorem dX7_hasOnly_0 : decode cX7_hasOnly 0 = .ok (.iload_n 1, 1) := by decide +kernel
theorem dX7_hasOnly_1 : decode cX7_hasOnly 1 = .ok (.ifCond .lt 26, 3) := by decide +kernel
theorem dX7_hasOnly_4 : decode cX7_hasOnly 4 = .ok (.iload_n 1, 1) := by decide +kernel
theorem dX7_hasOnly_5 : decode cX7_hasOnly 5 = .ok (.bipush 40, 2) := by decide +kernel
theorem dX7_hasOnly_7 : decode cX7_hasOnly 7 = .ok (.if_icmp .gt 20, 3) := by decide +kernel
theorem dX7_hasOnly_10 : decode cX7_hasOnly 10 = .ok (.aload_n 0, 1) := by decide +kernel
theorem dX7_hasOnly_11 : decode cX7_hasOnly 11 = .ok (.getfield 15, 3) := by decide +kernel
theorem dX7_hasOnly_14 : decode cX7_hasOnly 14 = .ok (.iload_n 1, 1) := by decide +kernel
theorem dX7_hasOnly_15 : decode cX7_hasOnly 15 = .ok (.lushr, 1) := by decide +kernel
theorem dX7_hasOnly_16 : decode cX7_hasOnly 16 = .ok (.lconst 1, 1) := by decide +kernel
theorem dX7_hasOnly_17 : decode cX7_hasOnly 17 = .ok (.land, 1) := by decide +kernel
theorem dX7_hasOnly_18 : decode cX7_hasOnly 18 = .ok (.lconst 1, 1) := by decide +kernel
theorem dX7_hasOnly_19 : decode cX7_hasOnly 19 = .ok (.lcmp, 1) := by decide +kernel
theorem dX7_hasOnly_20 : decode cX7_hasOnly 20 = .ok (.ifCond .ne 7, 3) := by decide +kernel
theorem dX7_hasOnly_23 : decode cX7_hasOnly 23 = .ok (.iconst 1, 1) := by decide +kernel
theorem dX7_hasOnly_24 : decode cX7_hasOnly 24 = .ok (.goto 4, 3) := by decide +kernel
theorem dX7_hasOnly_27 : decode cX7_hasOnly 27 = .ok (.iconst 0, 1) := by decide +kernel
theorem dX7_hasOnly_28 : decode cX7_hasOnly 28 = .ok (.ireturn, 1) := by decide +kernel
theorem dX7_onlyAt_0 : decode cX7_onlyAt 0 = .ok (.iconst 0, 1) := by decide +kernel
theorem dX7_onlyAt_1 : decode cX7_onlyAt 1 = .ok (.istore_n 2, 1) := by decide +kernel
theorem dX7_onlyAt_2 : decode cX7_onlyAt 2 = .ok (.iconst 1, 1) := by decide +kernel
theorem dX7_onlyAt_3 : decode cX7_onlyAt 3 = .ok (.istore_n 3, 1) := by decide +kernel
theorem dX7_onlyAt_4 : decode cX7_onlyAt 4 = .ok (.iload_n 3, 1) := by decide +kernel
theorem dX7_onlyAt_5 : decode cX7_onlyAt 5 = .ok (.bipush 40, 2) := by decide +kernel
theorem dX7_onlyAt_7 : decode cX7_onlyAt 7 = .ok (.if_icmp .gt 27, 3) := by decide +kernel
theorem dX7_onlyAt_10 : decode cX7_onlyAt 10 = .ok (.aload_n 0, 1) := by decide +kernel
theorem dX7_onlyAt_11 : decode cX7_onlyAt 11 = .ok (.iload_n 3, 1) := by decide +kernel
theorem dX7_onlyAt_12 : decode cX7_onlyAt 12 = .ok (.invokevirtual 38, 3) := by decide +kernel
theorem dX7_onlyAt_15 : decode cX7_onlyAt 15 = .ok (.ifCond .eq 13, 3) := by decide +kernel
theorem dX7_onlyAt_18 : decode cX7_onlyAt 18 = .ok (.iload_n 2, 1) := by decide +kernel
theorem dX7_onlyAt_19 : decode cX7_onlyAt 19 = .ok (.iload_n 1, 1) := by decide +kernel
theorem dX7_onlyAt_20 : decode cX7_onlyAt 20 = .ok (.if_icmp .ne 5, 3) := by decide +kernel
theorem dX7_onlyAt_23 : decode cX7_onlyAt 23 = .ok (.iload_n 3, 1) := by decide +kernel
theorem dX7_onlyAt_24 : decode cX7_onlyAt 24 = .ok (.ireturn, 1) := by decide +kernel
theorem dX7_onlyAt_25 : decode cX7_onlyAt 25 = .ok (.iinc 2 1, 3) := by decide +kernel
theorem dX7_onlyAt_28 : decode cX7_onlyAt 28 = .ok (.iinc 3 1, 3) := by decide +kernel
theorem dX7_onlyAt_31 : decode cX7_onlyAt 31 = .ok (.goto (-27), 3) := by decide +kernel
theorem dX7_onlyAt_34 : decode cX7_onlyAt 34 = .ok (.iconst (-1), 1) := by decide +kernel
theorem dX7_onlyAt_35 : decode cX7_onlyAt 35 = .ok (.ireturn, 1) := by decide +kernel
theorem dX7_addOnly_0 : decode cX7_addOnly 0 = .ok (.iload_n 1, 1) := by decide +kernel
theorem dX7_addOnly_1 : decode cX7_addOnly 1 = .ok (.ifCond .lt 21, 3) := by decide +kernel
theorem dX7_addOnly_4 : decode cX7_addOnly 4 = .ok (.iload_n 1, 1) := by decide +kernel
theorem dX7_addOnly_5 : decode cX7_addOnly 5 = .ok (.bipush 40, 2) := by decide +kernel
theorem dX7_addOnly_7 : decode cX7_addOnly 7 = .ok (.if_icmp .gt 15, 3) := by decide +kernel
theorem dX7_addOnly_10 : decode cX7_addOnly 10 = .ok (.aload_n 0, 1) := by decide +kernel
theorem dX7_addOnly_11 : decode cX7_addOnly 11 = .ok (.dup, 1) := by decide +kernel
theorem dX7_addOnly_12 : decode cX7_addOnly 12 = .ok (.getfield 15, 3) := by decide +kernel
theorem dX7_addOnly_15 : decode cX7_addOnly 15 = .ok (.lconst 1, 1) := by decide +kernel
theorem dX7_addOnly_16 : decode cX7_addOnly 16 = .ok (.iload_n 1, 1) := by decide +kernel
theorem dX7_addOnly_17 : decode cX7_addOnly 17 = .ok (.lshl, 1) := by decide +kernel
theorem dX7_addOnly_18 : decode cX7_addOnly 18 = .ok (.lor, 1) := by decide +kernel
theorem dX7_addOnly_19 : decode cX7_addOnly 19 = .ok (.putfield 15, 3) := by decide +kernel
theorem dX7_addOnly_22 : decode cX7_addOnly 22 = .ok (.return_, 1) := by decide +kernel
theorem dX7_barAt_0 : decode cX7_barAt 0 = .ok (.iload_n 1, 1) := by decide +kernel
theorem dX7_barAt_1 : decode cX7_barAt 1 = .ok (.ifCond .lt 29, 3) := by decide +kernel
theorem dX7_barAt_4 : decode cX7_barAt 4 = .ok (.iload_n 1, 1) := by decide +kernel
theorem dX7_barAt_5 : decode cX7_barAt 5 = .ok (.aload_n 0, 1) := by decide +kernel
theorem dX7_barAt_6 : decode cX7_barAt 6 = .ok (.getfield 25, 3) := by decide +kernel
theorem dX7_barAt_9 : decode cX7_barAt 9 = .ok (.if_icmp .ge 21, 3) := by decide +kernel
theorem dX7_barAt_12 : decode cX7_barAt 12 = .ok (.iload_n 1, 1) := by decide +kernel
theorem dX7_barAt_13 : decode cX7_barAt 13 = .ok (.aload_n 0, 1) := by decide +kernel
theorem dX7_barAt_14 : decode cX7_barAt 14 = .ok (.getfield 28, 3) := by decide +kernel
theorem dX7_barAt_17 : decode cX7_barAt 17 = .ok (.arraylength, 1) := by decide +kernel
theorem dX7_barAt_18 : decode cX7_barAt 18 = .ok (.if_icmp .ge 12, 3) := by decide +kernel
theorem dX7_barAt_21 : decode cX7_barAt 21 = .ok (.aload_n 0, 1) := by decide +kernel
theorem dX7_barAt_22 : decode cX7_barAt 22 = .ok (.getfield 28, 3) := by decide +kernel
theorem dX7_barAt_25 : decode cX7_barAt 25 = .ok (.iload_n 1, 1) := by decide +kernel
theorem dX7_barAt_26 : decode cX7_barAt 26 = .ok (.iaload, 1) := by decide +kernel
theorem dX7_barAt_27 : decode cX7_barAt 27 = .ok (.goto 4, 3) := by decide +kernel
theorem dX7_barAt_30 : decode cX7_barAt 30 = .ok (.iconst (-1), 1) := by decide +kernel
theorem dX7_barAt_31 : decode cX7_barAt 31 = .ok (.ireturn, 1) := by decide +kernel
theorem dX7_placeOfBar_0 : decode cX7_placeOfBar 0 = .ok (.iconst 0, 1) := by decide +kernel
theorem dX7_placeOfBar_1 : decode cX7_placeOfBar 1 = .ok (.istore_n 3, 1) := by decide +kernel
theorem dX7_placeOfBar_2 : decode cX7_placeOfBar 2 = .ok (.iload_n 3, 1) := by decide +kernel
theorem dX7_placeOfBar_3 : decode cX7_placeOfBar 3 = .ok (.aload_n 0, 1) := by decide +kernel
theorem dX7_placeOfBar_4 : decode cX7_placeOfBar 4 = .ok (.getfield 25, 3) := by decide +kernel
theorem dX7_placeOfBar_7 : decode cX7_placeOfBar 7 = .ok (.if_icmp .ge 35, 3) := by decide +kernel
theorem dX7_placeOfBar_10 : decode cX7_placeOfBar 10 = .ok (.iload_n 3, 1) := by decide +kernel
theorem dX7_placeOfBar_11 : decode cX7_placeOfBar 11 = .ok (.aload_n 0, 1) := by decide +kernel
theorem dX7_placeOfBar_12 : decode cX7_placeOfBar 12 = .ok (.getfield 28, 3) := by decide +kernel
theorem dX7_placeOfBar_15 : decode cX7_placeOfBar 15 = .ok (.arraylength, 1) := by decide +kernel
theorem dX7_placeOfBar_16 : decode cX7_placeOfBar 16 = .ok (.if_icmp .ge 26, 3) := by decide +kernel
theorem dX7_placeOfBar_19 : decode cX7_placeOfBar 19 = .ok (.aload_n 0, 1) := by decide +kernel
theorem dX7_placeOfBar_20 : decode cX7_placeOfBar 20 = .ok (.getfield 28, 3) := by decide +kernel
theorem dX7_placeOfBar_23 : decode cX7_placeOfBar 23 = .ok (.iload_n 3, 1) := by decide +kernel
theorem dX7_placeOfBar_24 : decode cX7_placeOfBar 24 = .ok (.iaload, 1) := by decide +kernel
theorem dX7_placeOfBar_25 : decode cX7_placeOfBar 25 = .ok (.iload_n 1, 1) := by decide +kernel
theorem dX7_placeOfBar_26 : decode cX7_placeOfBar 26 = .ok (.bipush 41, 2) := by decide +kernel
theorem dX7_placeOfBar_28 : decode cX7_placeOfBar 28 = .ok (.imul, 1) := by decide +kernel
theorem dX7_placeOfBar_29 : decode cX7_placeOfBar 29 = .ok (.iload_n 2, 1) := by decide +kernel
theorem dX7_placeOfBar_30 : decode cX7_placeOfBar 30 = .ok (.iadd, 1) := by decide +kernel
theorem dX7_placeOfBar_31 : decode cX7_placeOfBar 31 = .ok (.if_icmp .ne 5, 3) := by decide +kernel
theorem dX7_placeOfBar_34 : decode cX7_placeOfBar 34 = .ok (.iload_n 3, 1) := by decide +kernel
theorem dX7_placeOfBar_35 : decode cX7_placeOfBar 35 = .ok (.ireturn, 1) := by decide +kernel
theorem dX7_placeOfBar_36 : decode cX7_placeOfBar 36 = .ok (.iinc 3 1, 3) := by decide +kernel
theorem dX7_placeOfBar_39 : decode cX7_placeOfBar 39 = .ok (.goto (-37), 3) := by decide +kernel
theorem dX7_placeOfBar_42 : decode cX7_placeOfBar 42 = .ok (.iconst (-1), 1) := by decide +kernel
theorem dX7_placeOfBar_43 : decode cX7_placeOfBar 43 = .ok (.ireturn, 1) := by decide +kernel
theorem dX7_isBarred_0 : decode cX7_isBarred 0 = .ok (.aload_n 0, 1) := by decide +kernel
theorem dX7_isBarred_1 : decode cX7_isBarred 1 = .ok (.iload_n 1, 1) := by decide +kernel
theorem dX7_isBarred_2 : decode cX7_isBarred 2 = .ok (.iload_n 2, 1) := by decide +kernel
theorem dX7_isBarred_3 : decode cX7_isBarred 3 = .ok (.invokevirtual 42, 3) := by decide +kernel
theorem dX7_isBarred_6 : decode cX7_isBarred 6 = .ok (.iconst (-1), 1) := by decide +kernel
theorem dX7_isBarred_7 : decode cX7_isBarred 7 = .ok (.if_icmp .eq 7, 3) := by decide +kernel
theorem dX7_isBarred_10 : decode cX7_isBarred 10 = .ok (.iconst 1, 1) := by decide +kernel
theorem dX7_isBarred_11 : decode cX7_isBarred 11 = .ok (.goto 4, 3) := by decide +kernel
theorem dX7_isBarred_14 : decode cX7_isBarred 14 = .ok (.iconst 0, 1) := by decide +kernel
theorem dX7_isBarred_15 : decode cX7_isBarred 15 = .ok (.ireturn, 1) := by decide +kernel
theorem dX7_setBarred_0 : decode cX7_setBarred 0 = .ok (.aload_n 0, 1) := by decide +kernel
theorem dX7_setBarred_1 : decode cX7_setBarred 1 = .ok (.iload_n 1, 1) := by decide +kernel
theorem dX7_setBarred_2 : decode cX7_setBarred 2 = .ok (.iload_n 2, 1) := by decide +kernel
theorem dX7_setBarred_3 : decode cX7_setBarred 3 = .ok (.invokevirtual 42, 3) := by decide +kernel
theorem dX7_setBarred_6 : decode cX7_setBarred 6 = .ok (.istore 4, 2) := by decide +kernel
theorem dX7_setBarred_8 : decode cX7_setBarred 8 = .ok (.iload_n 3, 1) := by decide +kernel
theorem dX7_setBarred_9 : decode cX7_setBarred 9 = .ok (.ifCond .eq 46, 3) := by decide +kernel
theorem dX7_setBarred_12 : decode cX7_setBarred 12 = .ok (.iload 4, 2) := by decide +kernel
theorem dX7_setBarred_14 : decode cX7_setBarred 14 = .ok (.iconst (-1), 1) := by decide +kernel
theorem dX7_setBarred_15 : decode cX7_setBarred 15 = .ok (.if_icmp .ne 40, 3) := by decide +kernel
theorem dX7_setBarred_18 : decode cX7_setBarred 18 = .ok (.aload_n 0, 1) := by decide +kernel
theorem dX7_setBarred_19 : decode cX7_setBarred 19 = .ok (.getfield 25, 3) := by decide +kernel
theorem dX7_setBarred_22 : decode cX7_setBarred 22 = .ok (.aload_n 0, 1) := by decide +kernel
theorem dX7_setBarred_23 : decode cX7_setBarred 23 = .ok (.getfield 28, 3) := by decide +kernel
theorem dX7_setBarred_26 : decode cX7_setBarred 26 = .ok (.arraylength, 1) := by decide +kernel
theorem dX7_setBarred_27 : decode cX7_setBarred 27 = .ok (.if_icmp .ge 28, 3) := by decide +kernel
theorem dX7_setBarred_30 : decode cX7_setBarred 30 = .ok (.aload_n 0, 1) := by decide +kernel
theorem dX7_setBarred_31 : decode cX7_setBarred 31 = .ok (.getfield 28, 3) := by decide +kernel
theorem dX7_setBarred_34 : decode cX7_setBarred 34 = .ok (.aload_n 0, 1) := by decide +kernel
theorem dX7_setBarred_35 : decode cX7_setBarred 35 = .ok (.getfield 25, 3) := by decide +kernel
theorem dX7_setBarred_38 : decode cX7_setBarred 38 = .ok (.iload_n 1, 1) := by decide +kernel
theorem dX7_setBarred_39 : decode cX7_setBarred 39 = .ok (.bipush 41, 2) := by decide +kernel
theorem dX7_setBarred_41 : decode cX7_setBarred 41 = .ok (.imul, 1) := by decide +kernel
theorem dX7_setBarred_42 : decode cX7_setBarred 42 = .ok (.iload_n 2, 1) := by decide +kernel
theorem dX7_setBarred_43 : decode cX7_setBarred 43 = .ok (.iadd, 1) := by decide +kernel
theorem dX7_setBarred_44 : decode cX7_setBarred 44 = .ok (.iastore, 1) := by decide +kernel
theorem dX7_setBarred_45 : decode cX7_setBarred 45 = .ok (.aload_n 0, 1) := by decide +kernel
theorem dX7_setBarred_46 : decode cX7_setBarred 46 = .ok (.dup, 1) := by decide +kernel
theorem dX7_setBarred_47 : decode cX7_setBarred 47 = .ok (.getfield 25, 3) := by decide +kernel
theorem dX7_setBarred_50 : decode cX7_setBarred 50 = .ok (.iconst 1, 1) := by decide +kernel
theorem dX7_setBarred_51 : decode cX7_setBarred 51 = .ok (.iadd, 1) := by decide +kernel
theorem dX7_setBarred_52 : decode cX7_setBarred 52 = .ok (.putfield 25, 3) := by decide +kernel
theorem dX7_setBarred_55 : decode cX7_setBarred 55 = .ok (.iload_n 3, 1) := by decide +kernel
theorem dX7_setBarred_56 : decode cX7_setBarred 56 = .ok (.ifCond .ne 68, 3) := by decide +kernel
theorem dX7_setBarred_59 : decode cX7_setBarred 59 = .ok (.iload 4, 2) := by decide +kernel
theorem dX7_setBarred_61 : decode cX7_setBarred 61 = .ok (.iconst (-1), 1) := by decide +kernel
theorem dX7_setBarred_62 : decode cX7_setBarred 62 = .ok (.if_icmp .eq 62, 3) := by decide +kernel
theorem dX7_setBarred_65 : decode cX7_setBarred 65 = .ok (.iload 4, 2) := by decide +kernel
theorem dX7_setBarred_67 : decode cX7_setBarred 67 = .ok (.istore 5, 2) := by decide +kernel
theorem dX7_setBarred_69 : decode cX7_setBarred 69 = .ok (.iload 5, 2) := by decide +kernel
theorem dX7_setBarred_71 : decode cX7_setBarred 71 = .ok (.iconst 1, 1) := by decide +kernel
theorem dX7_setBarred_72 : decode cX7_setBarred 72 = .ok (.iadd, 1) := by decide +kernel
theorem dX7_setBarred_73 : decode cX7_setBarred 73 = .ok (.aload_n 0, 1) := by decide +kernel
theorem dX7_setBarred_74 : decode cX7_setBarred 74 = .ok (.getfield 25, 3) := by decide +kernel
theorem dX7_setBarred_77 : decode cX7_setBarred 77 = .ok (.if_icmp .ge 37, 3) := by decide +kernel
theorem dX7_setBarred_80 : decode cX7_setBarred 80 = .ok (.iload 5, 2) := by decide +kernel
theorem dX7_setBarred_82 : decode cX7_setBarred 82 = .ok (.iconst 1, 1) := by decide +kernel
theorem dX7_setBarred_83 : decode cX7_setBarred 83 = .ok (.iadd, 1) := by decide +kernel
theorem dX7_setBarred_84 : decode cX7_setBarred 84 = .ok (.aload_n 0, 1) := by decide +kernel
theorem dX7_setBarred_85 : decode cX7_setBarred 85 = .ok (.getfield 28, 3) := by decide +kernel
theorem dX7_setBarred_88 : decode cX7_setBarred 88 = .ok (.arraylength, 1) := by decide +kernel
theorem dX7_setBarred_89 : decode cX7_setBarred 89 = .ok (.if_icmp .ge 25, 3) := by decide +kernel
theorem dX7_setBarred_92 : decode cX7_setBarred 92 = .ok (.aload_n 0, 1) := by decide +kernel
theorem dX7_setBarred_93 : decode cX7_setBarred 93 = .ok (.getfield 28, 3) := by decide +kernel
theorem dX7_setBarred_96 : decode cX7_setBarred 96 = .ok (.iload 5, 2) := by decide +kernel
theorem dX7_setBarred_98 : decode cX7_setBarred 98 = .ok (.aload_n 0, 1) := by decide +kernel
theorem dX7_setBarred_99 : decode cX7_setBarred 99 = .ok (.getfield 28, 3) := by decide +kernel
theorem dX7_setBarred_102 : decode cX7_setBarred 102 = .ok (.iload 5, 2) := by decide +kernel
theorem dX7_setBarred_104 : decode cX7_setBarred 104 = .ok (.iconst 1, 1) := by decide +kernel
theorem dX7_setBarred_105 : decode cX7_setBarred 105 = .ok (.iadd, 1) := by decide +kernel
theorem dX7_setBarred_106 : decode cX7_setBarred 106 = .ok (.iaload, 1) := by decide +kernel
theorem dX7_setBarred_107 : decode cX7_setBarred 107 = .ok (.iastore, 1) := by decide +kernel
theorem dX7_setBarred_108 : decode cX7_setBarred 108 = .ok (.iinc 5 1, 3) := by decide +kernel
theorem dX7_setBarred_111 : decode cX7_setBarred 111 = .ok (.goto (-42), 3) := by decide +kernel
theorem dX7_setBarred_114 : decode cX7_setBarred 114 = .ok (.aload_n 0, 1) := by decide +kernel
theorem dX7_setBarred_115 : decode cX7_setBarred 115 = .ok (.dup, 1) := by decide +kernel
theorem dX7_setBarred_116 : decode cX7_setBarred 116 = .ok (.getfield 25, 3) := by decide +kernel
theorem dX7_setBarred_119 : decode cX7_setBarred 119 = .ok (.iconst 1, 1) := by decide +kernel
theorem dX7_setBarred_120 : decode cX7_setBarred 120 = .ok (.isub, 1) := by decide +kernel
theorem dX7_setBarred_121 : decode cX7_setBarred 121 = .ok (.putfield 25, 3) := by decide +kernel
theorem dX7_setBarred_124 : decode cX7_setBarred 124 = .ok (.return_, 1) := by decide +kernel
theorem dX7_refusal_0 : decode cX7_refusal 0 = .ok (.iload_n 1, 1) := by decide +kernel
theorem dX7_refusal_1 : decode cX7_refusal 1 = .ok (.aload_n 0, 1) := by decide +kernel
theorem dX7_refusal_2 : decode cX7_refusal 2 = .ok (.getfield 22, 3) := by decide +kernel
theorem dX7_refusal_5 : decode cX7_refusal 5 = .ok (.if_icmp .gt 11, 3) := by decide +kernel
theorem dX7_refusal_8 : decode cX7_refusal 8 = .ok (.iload_n 2, 1) := by decide +kernel
theorem dX7_refusal_9 : decode cX7_refusal 9 = .ok (.aload_n 0, 1) := by decide +kernel
theorem dX7_refusal_10 : decode cX7_refusal 10 = .ok (.getfield 22, 3) := by decide +kernel
theorem dX7_refusal_13 : decode cX7_refusal 13 = .ok (.if_icmp .le 5, 3) := by decide +kernel
theorem dX7_refusal_16 : decode cX7_refusal 16 = .ok (.iconst 4, 1) := by decide +kernel
theorem dX7_refusal_17 : decode cX7_refusal 17 = .ok (.ireturn, 1) := by decide +kernel
theorem dX7_refusal_18 : decode cX7_refusal 18 = .ok (.iload_n 1, 1) := by decide +kernel
theorem dX7_refusal_19 : decode cX7_refusal 19 = .ok (.ifCond .eq 7, 3) := by decide +kernel
theorem dX7_refusal_22 : decode cX7_refusal 22 = .ok (.iload_n 2, 1) := by decide +kernel
theorem dX7_refusal_23 : decode cX7_refusal 23 = .ok (.ifCond .ne 24, 3) := by decide +kernel
theorem dX7_refusal_26 : decode cX7_refusal 26 = .ok (.aload_n 0, 1) := by decide +kernel
theorem dX7_refusal_27 : decode cX7_refusal 27 = .ok (.getfield 15, 3) := by decide +kernel
theorem dX7_refusal_30 : decode cX7_refusal 30 = .ok (.lconst 0, 1) := by decide +kernel
theorem dX7_refusal_31 : decode cX7_refusal 31 = .ok (.lcmp, 1) := by decide +kernel
theorem dX7_refusal_32 : decode cX7_refusal 32 = .ok (.ifCond .eq 31, 3) := by decide +kernel
theorem dX7_refusal_35 : decode cX7_refusal 35 = .ok (.aload_n 0, 1) := by decide +kernel
theorem dX7_refusal_36 : decode cX7_refusal 36 = .ok (.iload_n 1, 1) := by decide +kernel
theorem dX7_refusal_37 : decode cX7_refusal 37 = .ok (.iload_n 2, 1) := by decide +kernel
theorem dX7_refusal_38 : decode cX7_refusal 38 = .ok (.iadd, 1) := by decide +kernel
theorem dX7_refusal_39 : decode cX7_refusal 39 = .ok (.invokevirtual 38, 3) := by decide +kernel
theorem dX7_refusal_42 : decode cX7_refusal 42 = .ok (.ifCond .ne 21, 3) := by decide +kernel
theorem dX7_refusal_45 : decode cX7_refusal 45 = .ok (.iconst 5, 1) := by decide +kernel
theorem dX7_refusal_46 : decode cX7_refusal 46 = .ok (.ireturn, 1) := by decide +kernel
theorem dX7_refusal_47 : decode cX7_refusal 47 = .ok (.iload_n 1, 1) := by decide +kernel
theorem dX7_refusal_48 : decode cX7_refusal 48 = .ok (.iload_n 2, 1) := by decide +kernel
theorem dX7_refusal_49 : decode cX7_refusal 49 = .ok (.isub, 1) := by decide +kernel
theorem dX7_refusal_50 : decode cX7_refusal 50 = .ok (.invokestatic 46, 3) := by decide +kernel
theorem dX7_refusal_53 : decode cX7_refusal 53 = .ok (.aload_n 0, 1) := by decide +kernel
theorem dX7_refusal_54 : decode cX7_refusal 54 = .ok (.getfield 18, 3) := by decide +kernel
theorem dX7_refusal_57 : decode cX7_refusal 57 = .ok (.if_icmp .lt 6, 3) := by decide +kernel
theorem dX7_refusal_60 : decode cX7_refusal 60 = .ok (.bipush 6, 2) := by decide +kernel
theorem dX7_refusal_62 : decode cX7_refusal 62 = .ok (.ireturn, 1) := by decide +kernel
theorem dX7_refusal_63 : decode cX7_refusal 63 = .ok (.aload_n 0, 1) := by decide +kernel
theorem dX7_refusal_64 : decode cX7_refusal 64 = .ok (.iload_n 1, 1) := by decide +kernel
theorem dX7_refusal_65 : decode cX7_refusal 65 = .ok (.iload_n 2, 1) := by decide +kernel
theorem dX7_refusal_66 : decode cX7_refusal 66 = .ok (.invokevirtual 42, 3) := by decide +kernel
theorem dX7_refusal_69 : decode cX7_refusal 69 = .ok (.iconst (-1), 1) := by decide +kernel
theorem dX7_refusal_70 : decode cX7_refusal 70 = .ok (.if_icmp .eq 8, 3) := by decide +kernel
theorem dX7_refusal_73 : decode cX7_refusal 73 = .ok (.bipush 7, 2) := by decide +kernel
theorem dX7_refusal_75 : decode cX7_refusal 75 = .ok (.goto 4, 3) := by decide +kernel
theorem dX7_refusal_78 : decode cX7_refusal 78 = .ok (.iconst 0, 1) := by decide +kernel
theorem dX7_refusal_79 : decode cX7_refusal 79 = .ok (.ireturn, 1) := by decide +kernel
theorem dX8_init_0 : decode cX8_init 0 = .ok (.aload_n 0, 1) := by decide +kernel
theorem dX8_init_1 : decode cX8_init 1 = .ok (.invokespecial 3, 3) := by decide +kernel
theorem dX8_init_4 : decode cX8_init 4 = .ok (.aload_n 0, 1) := by decide +kernel
theorem dX8_init_5 : decode cX8_init 5 = .ok (.new 9, 3) := by decide +kernel
theorem dX8_init_8 : decode cX8_init 8 = .ok (.dup, 1) := by decide +kernel
theorem dX8_init_9 : decode cX8_init 9 = .ok (.invokespecial 11, 3) := by decide +kernel
theorem dX8_init_12 : decode cX8_init 12 = .ok (.putfield 12, 3) := by decide +kernel
theorem dX8_init_15 : decode cX8_init 15 = .ok (.aload_n 0, 1) := by decide +kernel
theorem dX8_init_16 : decode cX8_init 16 = .ok (.iconst 0, 1) := by decide +kernel
theorem dX8_init_17 : decode cX8_init 17 = .ok (.putfield 18, 3) := by decide +kernel
theorem dX8_init_20 : decode cX8_init 20 = .ok (.aload_n 0, 1) := by decide +kernel
theorem dX8_init_21 : decode cX8_init 21 = .ok (.sipush 1681, 3) := by decide +kernel
theorem dX8_init_24 : decode cX8_init 24 = .ok (.newarray .int, 2) := by decide +kernel
theorem dX8_init_26 : decode cX8_init 26 = .ok (.putfield 22, 3) := by decide +kernel
theorem dX8_init_29 : decode cX8_init 29 = .ok (.aload_n 0, 1) := by decide +kernel
theorem dX8_init_30 : decode cX8_init 30 = .ok (.sipush 1681, 3) := by decide +kernel
theorem dX8_init_33 : decode cX8_init 33 = .ok (.newarray .int, 2) := by decide +kernel
theorem dX8_init_35 : decode cX8_init 35 = .ok (.putfield 26, 3) := by decide +kernel
theorem dX8_init_38 : decode cX8_init 38 = .ok (.aload_n 0, 1) := by decide +kernel
theorem dX8_init_39 : decode cX8_init 39 = .ok (.iconst 0, 1) := by decide +kernel
theorem dX8_init_40 : decode cX8_init 40 = .ok (.putfield 29, 3) := by decide +kernel
theorem dX8_init_43 : decode cX8_init 43 = .ok (.aload_n 0, 1) := by decide +kernel
theorem dX8_init_44 : decode cX8_init 44 = .ok (.sipush 1681, 3) := by decide +kernel
theorem dX8_init_47 : decode cX8_init 47 = .ok (.newarray .int, 2) := by decide +kernel
theorem dX8_init_49 : decode cX8_init 49 = .ok (.putfield 33, 3) := by decide +kernel
theorem dX8_init_52 : decode cX8_init 52 = .ok (.aload_n 0, 1) := by decide +kernel
theorem dX8_init_53 : decode cX8_init 53 = .ok (.sipush 1681, 3) := by decide +kernel
theorem dX8_init_56 : decode cX8_init 56 = .ok (.newarray .int, 2) := by decide +kernel
theorem dX8_init_58 : decode cX8_init 58 = .ok (.putfield 36, 3) := by decide +kernel
theorem dX8_init_61 : decode cX8_init 61 = .ok (.aload_n 0, 1) := by decide +kernel
theorem dX8_init_62 : decode cX8_init 62 = .ok (.sipush 1681, 3) := by decide +kernel
theorem dX8_init_65 : decode cX8_init 65 = .ok (.newarray .int, 2) := by decide +kernel
theorem dX8_init_67 : decode cX8_init 67 = .ok (.putfield 39, 3) := by decide +kernel
theorem dX8_init_70 : decode cX8_init 70 = .ok (.aload_n 0, 1) := by decide +kernel
theorem dX8_init_71 : decode cX8_init 71 = .ok (.iconst 0, 1) := by decide +kernel
theorem dX8_init_72 : decode cX8_init 72 = .ok (.putfield 42, 3) := by decide +kernel
theorem dX8_init_75 : decode cX8_init 75 = .ok (.aload_n 0, 1) := by decide +kernel
theorem dX8_init_76 : decode cX8_init 76 = .ok (.iconst 0, 1) := by decide +kernel
theorem dX8_init_77 : decode cX8_init 77 = .ok (.putfield 45, 3) := by decide +kernel
theorem dX8_init_80 : decode cX8_init 80 = .ok (.aload_n 0, 1) := by decide +kernel
theorem dX8_init_81 : decode cX8_init 81 = .ok (.iconst 0, 1) := by decide +kernel
theorem dX8_init_82 : decode cX8_init 82 = .ok (.putfield 48, 3) := by decide +kernel
theorem dX8_init_85 : decode cX8_init 85 = .ok (.aload_n 0, 1) := by decide +kernel
theorem dX8_init_86 : decode cX8_init 86 = .ok (.iconst 0, 1) := by decide +kernel
theorem dX8_init_87 : decode cX8_init 87 = .ok (.putfield 51, 3) := by decide +kernel
theorem dX8_init_90 : decode cX8_init 90 = .ok (.return_, 1) := by decide +kernel
theorem dX8_fit_0 : decode cX8_fit 0 = .ok (.aload_n 0, 1) := by decide +kernel
theorem dX8_fit_1 : decode cX8_fit 1 = .ok (.getfield 18, 3) := by decide +kernel
theorem dX8_fit_4 : decode cX8_fit 4 = .ok (.ifCond .eq 15, 3) := by decide +kernel
theorem dX8_fit_7 : decode cX8_fit 7 = .ok (.aload_n 0, 1) := by decide +kernel
theorem dX8_fit_8 : decode cX8_fit 8 = .ok (.getfield 12, 3) := by decide +kernel
theorem dX8_fit_11 : decode cX8_fit 11 = .ok (.aload_n 1, 1) := by decide +kernel
theorem dX8_fit_12 : decode cX8_fit 12 = .ok (.invokevirtual 54, 3) := by decide +kernel
theorem dX8_fit_15 : decode cX8_fit 15 = .ok (.ifCond .eq 4, 3) := by decide +kernel
theorem dX8_fit_18 : decode cX8_fit 18 = .ok (.return_, 1) := by decide +kernel
theorem dX8_fit_19 : decode cX8_fit 19 = .ok (.aload_n 0, 1) := by decide +kernel
theorem dX8_fit_20 : decode cX8_fit 20 = .ok (.iconst 1, 1) := by decide +kernel
theorem dX8_fit_21 : decode cX8_fit 21 = .ok (.putfield 18, 3) := by decide +kernel
theorem dX8_fit_24 : decode cX8_fit 24 = .ok (.aload_n 0, 1) := by decide +kernel
theorem dX8_fit_25 : decode cX8_fit 25 = .ok (.aload_n 1, 1) := by decide +kernel
theorem dX8_fit_26 : decode cX8_fit 26 = .ok (.invokevirtual 58, 3) := by decide +kernel
theorem dX8_fit_29 : decode cX8_fit 29 = .ok (.aload_n 0, 1) := by decide +kernel
theorem dX8_fit_30 : decode cX8_fit 30 = .ok (.getfield 39, 3) := by decide +kernel
theorem dX8_fit_33 : decode cX8_fit 33 = .ok (.iconst 0, 1) := by decide +kernel
theorem dX8_fit_34 : decode cX8_fit 34 = .ok (.invokestatic 62, 3) := by decide +kernel
theorem dX8_fit_37 : decode cX8_fit 37 = .ok (.iconst 0, 1) := by decide +kernel
theorem dX8_fit_38 : decode cX8_fit 38 = .ok (.istore_n 2, 1) := by decide +kernel
theorem dX8_fit_39 : decode cX8_fit 39 = .ok (.iload_n 2, 1) := by decide +kernel
theorem dX8_fit_40 : decode cX8_fit 40 = .ok (.bipush 41, 2) := by decide +kernel
theorem dX8_fit_42 : decode cX8_fit 42 = .ok (.if_icmp .ge 29, 3) := by decide +kernel
theorem dX8_fit_45 : decode cX8_fit 45 = .ok (.iconst 0, 1) := by decide +kernel
theorem dX8_fit_46 : decode cX8_fit 46 = .ok (.istore_n 3, 1) := by decide +kernel
theorem dX8_fit_47 : decode cX8_fit 47 = .ok (.iload_n 3, 1) := by decide +kernel
theorem dX8_fit_48 : decode cX8_fit 48 = .ok (.bipush 41, 2) := by decide +kernel
theorem dX8_fit_50 : decode cX8_fit 50 = .ok (.if_icmp .ge 15, 3) := by decide +kernel
theorem dX8_fit_53 : decode cX8_fit 53 = .ok (.aload_n 0, 1) := by decide +kernel
theorem dX8_fit_54 : decode cX8_fit 54 = .ok (.iload_n 2, 1) := by decide +kernel
theorem dX8_fit_55 : decode cX8_fit 55 = .ok (.iload_n 3, 1) := by decide +kernel
theorem dX8_fit_56 : decode cX8_fit 56 = .ok (.invokevirtual 68, 3) := by decide +kernel
theorem dX8_fit_59 : decode cX8_fit 59 = .ok (.iinc 3 1, 3) := by decide +kernel
theorem dX8_fit_62 : decode cX8_fit 62 = .ok (.goto (-15), 3) := by decide +kernel
theorem dX8_fit_65 : decode cX8_fit 65 = .ok (.iinc 2 1, 3) := by decide +kernel
theorem dX8_fit_68 : decode cX8_fit 68 = .ok (.goto (-29), 3) := by decide +kernel
theorem dX8_fit_71 : decode cX8_fit 71 = .ok (.aload_n 0, 1) := by decide +kernel
theorem dX8_fit_72 : decode cX8_fit 72 = .ok (.invokevirtual 72, 3) := by decide +kernel
theorem dX8_fit_75 : decode cX8_fit 75 = .ok (.return_, 1) := by decide +kernel
theorem dX8_fitLosing_0 : decode cX8_fitLosing 0 = .ok (.aload_n 0, 1) := by decide +kernel
theorem dX8_fitLosing_1 : decode cX8_fitLosing 1 = .ok (.iconst 0, 1) := by decide +kernel
theorem dX8_fitLosing_2 : decode cX8_fitLosing 2 = .ok (.putfield 18, 3) := by decide +kernel
theorem dX8_fitLosing_5 : decode cX8_fitLosing 5 = .ok (.aload_n 0, 1) := by decide +kernel
theorem dX8_fitLosing_6 : decode cX8_fitLosing 6 = .ok (.aload_n 1, 1) := by decide +kernel
theorem dX8_fitLosing_7 : decode cX8_fitLosing 7 = .ok (.invokevirtual 58, 3) := by decide +kernel
theorem dX8_fitLosing_10 : decode cX8_fitLosing 10 = .ok (.aload_n 0, 1) := by decide +kernel
theorem dX8_fitLosing_11 : decode cX8_fitLosing 11 = .ok (.getfield 33, 3) := by decide +kernel
theorem dX8_fitLosing_14 : decode cX8_fitLosing 14 = .ok (.iconst 0, 1) := by decide +kernel
theorem dX8_fitLosing_15 : decode cX8_fitLosing 15 = .ok (.invokestatic 62, 3) := by decide +kernel
theorem dX8_fitLosing_18 : decode cX8_fitLosing 18 = .ok (.iconst 0, 1) := by decide +kernel
theorem dX8_fitLosing_19 : decode cX8_fitLosing 19 = .ok (.istore_n 2, 1) := by decide +kernel
theorem dX8_fitLosing_20 : decode cX8_fitLosing 20 = .ok (.iload_n 2, 1) := by decide +kernel
theorem dX8_fitLosing_21 : decode cX8_fitLosing 21 = .ok (.bipush 41, 2) := by decide +kernel
theorem dX8_fitLosing_23 : decode cX8_fitLosing 23 = .ok (.if_icmp .ge 43, 3) := by decide +kernel
theorem dX8_fitLosing_26 : decode cX8_fitLosing 26 = .ok (.iconst 0, 1) := by decide +kernel
theorem dX8_fitLosing_27 : decode cX8_fitLosing 27 = .ok (.istore_n 3, 1) := by decide +kernel
theorem dX8_fitLosing_28 : decode cX8_fitLosing 28 = .ok (.iload_n 3, 1) := by decide +kernel
theorem dX8_fitLosing_29 : decode cX8_fitLosing 29 = .ok (.bipush 41, 2) := by decide +kernel
theorem dX8_fitLosing_31 : decode cX8_fitLosing 31 = .ok (.if_icmp .ge 29, 3) := by decide +kernel
theorem dX8_fitLosing_34 : decode cX8_fitLosing 34 = .ok (.aload_n 0, 1) := by decide +kernel
theorem dX8_fitLosing_35 : decode cX8_fitLosing 35 = .ok (.getfield 33, 3) := by decide +kernel
theorem dX8_fitLosing_38 : decode cX8_fitLosing 38 = .ok (.iload_n 2, 1) := by decide +kernel
theorem dX8_fitLosing_39 : decode cX8_fitLosing 39 = .ok (.bipush 41, 2) := by decide +kernel
theorem dX8_fitLosing_41 : decode cX8_fitLosing 41 = .ok (.imul, 1) := by decide +kernel
theorem dX8_fitLosing_42 : decode cX8_fitLosing 42 = .ok (.iload_n 3, 1) := by decide +kernel
theorem dX8_fitLosing_43 : decode cX8_fitLosing 43 = .ok (.iadd, 1) := by decide +kernel
theorem dX8_fitLosing_44 : decode cX8_fitLosing 44 = .ok (.iaload, 1) := by decide +kernel
theorem dX8_fitLosing_45 : decode cX8_fitLosing 45 = .ok (.ifCond .ne 9, 3) := by decide +kernel
theorem dX8_fitLosing_48 : decode cX8_fitLosing 48 = .ok (.aload_n 0, 1) := by decide +kernel
theorem dX8_fitLosing_49 : decode cX8_fitLosing 49 = .ok (.iload_n 2, 1) := by decide +kernel
theorem dX8_fitLosing_50 : decode cX8_fitLosing 50 = .ok (.iload_n 3, 1) := by decide +kernel
theorem dX8_fitLosing_51 : decode cX8_fitLosing 51 = .ok (.invokevirtual 75, 3) := by decide +kernel
theorem dX8_fitLosing_54 : decode cX8_fitLosing 54 = .ok (.iinc 3 1, 3) := by decide +kernel
theorem dX8_fitLosing_57 : decode cX8_fitLosing 57 = .ok (.goto (-29), 3) := by decide +kernel
theorem dX8_fitLosing_60 : decode cX8_fitLosing 60 = .ok (.iinc 2 1, 3) := by decide +kernel
theorem dX8_fitLosing_63 : decode cX8_fitLosing 63 = .ok (.goto (-43), 3) := by decide +kernel
theorem dX8_fitLosing_66 : decode cX8_fitLosing 66 = .ok (.aload_n 0, 1) := by decide +kernel
theorem dX8_fitLosing_67 : decode cX8_fitLosing 67 = .ok (.invokevirtual 72, 3) := by decide +kernel
theorem dX8_fitLosing_70 : decode cX8_fitLosing 70 = .ok (.return_, 1) := by decide +kernel
theorem dX8_gatherSteps_0 : decode cX8_gatherSteps 0 = .ok (.aload_n 0, 1) := by decide +kernel
theorem dX8_gatherSteps_1 : decode cX8_gatherSteps 1 = .ok (.getfield 12, 3) := by decide +kernel
theorem dX8_gatherSteps_4 : decode cX8_gatherSteps 4 = .ok (.aload_n 1, 1) := by decide +kernel
theorem dX8_gatherSteps_5 : decode cX8_gatherSteps 5 = .ok (.invokevirtual 78, 3) := by decide +kernel
theorem dX8_gatherSteps_8 : decode cX8_gatherSteps 8 = .ok (.aload_n 0, 1) := by decide +kernel
theorem dX8_gatherSteps_9 : decode cX8_gatherSteps 9 = .ok (.iconst 0, 1) := by decide +kernel
theorem dX8_gatherSteps_10 : decode cX8_gatherSteps 10 = .ok (.putfield 29, 3) := by decide +kernel
theorem dX8_gatherSteps_13 : decode cX8_gatherSteps 13 = .ok (.iconst 0, 1) := by decide +kernel
theorem dX8_gatherSteps_14 : decode cX8_gatherSteps 14 = .ok (.istore_n 2, 1) := by decide +kernel
theorem dX8_gatherSteps_15 : decode cX8_gatherSteps 15 = .ok (.iload_n 2, 1) := by decide +kernel
theorem dX8_gatherSteps_16 : decode cX8_gatherSteps 16 = .ok (.bipush 40, 2) := by decide +kernel
theorem dX8_gatherSteps_18 : decode cX8_gatherSteps 18 = .ok (.if_icmp .gt 78, 3) := by decide +kernel
theorem dX8_gatherSteps_21 : decode cX8_gatherSteps 21 = .ok (.iconst 0, 1) := by decide +kernel
theorem dX8_gatherSteps_22 : decode cX8_gatherSteps 22 = .ok (.istore_n 3, 1) := by decide +kernel
theorem dX8_gatherSteps_23 : decode cX8_gatherSteps 23 = .ok (.iload_n 3, 1) := by decide +kernel
theorem dX8_gatherSteps_24 : decode cX8_gatherSteps 24 = .ok (.bipush 40, 2) := by decide +kernel
theorem dX8_gatherSteps_26 : decode cX8_gatherSteps 26 = .ok (.if_icmp .gt 64, 3) := by decide +kernel
theorem dX8_gatherSteps_29 : decode cX8_gatherSteps 29 = .ok (.iload_n 2, 1) := by decide +kernel
theorem dX8_gatherSteps_30 : decode cX8_gatherSteps 30 = .ok (.iload_n 3, 1) := by decide +kernel
theorem dX8_gatherSteps_31 : decode cX8_gatherSteps 31 = .ok (.iadd, 1) := by decide +kernel
theorem dX8_gatherSteps_32 : decode cX8_gatherSteps 32 = .ok (.ifCond .le 52, 3) := by decide +kernel
theorem dX8_gatherSteps_35 : decode cX8_gatherSteps 35 = .ok (.aload_n 1, 1) := by decide +kernel
theorem dX8_gatherSteps_36 : decode cX8_gatherSteps 36 = .ok (.iload_n 2, 1) := by decide +kernel
theorem dX8_gatherSteps_37 : decode cX8_gatherSteps 37 = .ok (.iload_n 3, 1) := by decide +kernel
theorem dX8_gatherSteps_38 : decode cX8_gatherSteps 38 = .ok (.invokevirtual 81, 3) := by decide +kernel
theorem dX8_gatherSteps_41 : decode cX8_gatherSteps 41 = .ok (.ifCond .ne 43, 3) := by decide +kernel
theorem dX8_gatherSteps_44 : decode cX8_gatherSteps 44 = .ok (.aload_n 0, 1) := by decide +kernel
theorem dX8_gatherSteps_45 : decode cX8_gatherSteps 45 = .ok (.getfield 29, 3) := by decide +kernel
theorem dX8_gatherSteps_48 : decode cX8_gatherSteps 48 = .ok (.sipush 1681, 3) := by decide +kernel
theorem dX8_gatherSteps_51 : decode cX8_gatherSteps 51 = .ok (.if_icmp .ge 33, 3) := by decide +kernel
theorem dX8_gatherSteps_54 : decode cX8_gatherSteps 54 = .ok (.aload_n 0, 1) := by decide +kernel
theorem dX8_gatherSteps_55 : decode cX8_gatherSteps 55 = .ok (.getfield 22, 3) := by decide +kernel
theorem dX8_gatherSteps_58 : decode cX8_gatherSteps 58 = .ok (.aload_n 0, 1) := by decide +kernel
theorem dX8_gatherSteps_59 : decode cX8_gatherSteps 59 = .ok (.getfield 29, 3) := by decide +kernel
theorem dX8_gatherSteps_62 : decode cX8_gatherSteps 62 = .ok (.iload_n 2, 1) := by decide +kernel
theorem dX8_gatherSteps_63 : decode cX8_gatherSteps 63 = .ok (.iastore, 1) := by decide +kernel
theorem dX8_gatherSteps_64 : decode cX8_gatherSteps 64 = .ok (.aload_n 0, 1) := by decide +kernel
theorem dX8_gatherSteps_65 : decode cX8_gatherSteps 65 = .ok (.getfield 26, 3) := by decide +kernel
theorem dX8_gatherSteps_68 : decode cX8_gatherSteps 68 = .ok (.aload_n 0, 1) := by decide +kernel
theorem dX8_gatherSteps_69 : decode cX8_gatherSteps 69 = .ok (.getfield 29, 3) := by decide +kernel
theorem dX8_gatherSteps_72 : decode cX8_gatherSteps 72 = .ok (.iload_n 3, 1) := by decide +kernel
theorem dX8_gatherSteps_73 : decode cX8_gatherSteps 73 = .ok (.iastore, 1) := by decide +kernel
theorem dX8_gatherSteps_74 : decode cX8_gatherSteps 74 = .ok (.aload_n 0, 1) := by decide +kernel
theorem dX8_gatherSteps_75 : decode cX8_gatherSteps 75 = .ok (.dup, 1) := by decide +kernel
theorem dX8_gatherSteps_76 : decode cX8_gatherSteps 76 = .ok (.getfield 29, 3) := by decide +kernel
theorem dX8_gatherSteps_79 : decode cX8_gatherSteps 79 = .ok (.iconst 1, 1) := by decide +kernel
theorem dX8_gatherSteps_80 : decode cX8_gatherSteps 80 = .ok (.iadd, 1) := by decide +kernel
theorem dX8_gatherSteps_81 : decode cX8_gatherSteps 81 = .ok (.putfield 29, 3) := by decide +kernel
theorem dX8_gatherSteps_84 : decode cX8_gatherSteps 84 = .ok (.iinc 3 1, 3) := by decide +kernel
theorem dX8_gatherSteps_87 : decode cX8_gatherSteps 87 = .ok (.goto (-64), 3) := by decide +kernel
theorem dX8_gatherSteps_90 : decode cX8_gatherSteps 90 = .ok (.iinc 2 1, 3) := by decide +kernel
theorem dX8_gatherSteps_93 : decode cX8_gatherSteps 93 = .ok (.goto (-78), 3) := by decide +kernel
theorem dX8_gatherSteps_96 : decode cX8_gatherSteps 96 = .ok (.return_, 1) := by decide +kernel
theorem dX8_settle_0 : decode cX8_settle 0 = .ok (.iload_n 1, 1) := by decide +kernel
theorem dX8_settle_1 : decode cX8_settle 1 = .ok (.bipush 41, 2) := by decide +kernel
theorem dX8_settle_3 : decode cX8_settle 3 = .ok (.imul, 1) := by decide +kernel
theorem dX8_settle_4 : decode cX8_settle 4 = .ok (.iload_n 2, 1) := by decide +kernel
theorem dX8_settle_5 : decode cX8_settle 5 = .ok (.iadd, 1) := by decide +kernel
theorem dX8_settle_6 : decode cX8_settle 6 = .ok (.istore_n 3, 1) := by decide +kernel
theorem dX8_settle_7 : decode cX8_settle 7 = .ok (.iconst (-1), 1) := by decide +kernel
theorem dX8_settle_8 : decode cX8_settle 8 = .ok (.istore 4, 2) := by decide +kernel
theorem dX8_settle_10 : decode cX8_settle 10 = .ok (.sipush 1681, 3) := by decide +kernel
theorem dX8_settle_13 : decode cX8_settle 13 = .ok (.istore 5, 2) := by decide +kernel
theorem dX8_settle_15 : decode cX8_settle 15 = .ok (.iconst 0, 1) := by decide +kernel
theorem dX8_settle_16 : decode cX8_settle 16 = .ok (.istore 6, 2) := by decide +kernel
theorem dX8_settle_18 : decode cX8_settle 18 = .ok (.iload 6, 2) := by decide +kernel
theorem dX8_settle_20 : decode cX8_settle 20 = .ok (.aload_n 0, 1) := by decide +kernel
theorem dX8_settle_21 : decode cX8_settle 21 = .ok (.getfield 29, 3) := by decide +kernel
theorem dX8_settle_24 : decode cX8_settle 24 = .ok (.if_icmp .ge 121, 3) := by decide +kernel
theorem dX8_settle_27 : decode cX8_settle 27 = .ok (.aload_n 0, 1) := by decide +kernel
theorem dX8_settle_28 : decode cX8_settle 28 = .ok (.getfield 22, 3) := by decide +kernel
theorem dX8_settle_31 : decode cX8_settle 31 = .ok (.iload 6, 2) := by decide +kernel
theorem dX8_settle_33 : decode cX8_settle 33 = .ok (.iaload, 1) := by decide +kernel
theorem dX8_settle_34 : decode cX8_settle 34 = .ok (.iload_n 1, 1) := by decide +kernel
theorem dX8_settle_35 : decode cX8_settle 35 = .ok (.if_icmp .gt 110, 3) := by decide +kernel
theorem dX8_settle_38 : decode cX8_settle 38 = .ok (.aload_n 0, 1) := by decide +kernel
theorem dX8_settle_39 : decode cX8_settle 39 = .ok (.getfield 26, 3) := by decide +kernel
theorem dX8_settle_42 : decode cX8_settle 42 = .ok (.iload 6, 2) := by decide +kernel
theorem dX8_settle_44 : decode cX8_settle 44 = .ok (.iaload, 1) := by decide +kernel
theorem dX8_settle_45 : decode cX8_settle 45 = .ok (.iload_n 2, 1) := by decide +kernel
theorem dX8_settle_46 : decode cX8_settle 46 = .ok (.if_icmp .gt 93, 3) := by decide +kernel
theorem dX8_settle_49 : decode cX8_settle 49 = .ok (.iload_n 3, 1) := by decide +kernel
theorem dX8_settle_50 : decode cX8_settle 50 = .ok (.aload_n 0, 1) := by decide +kernel
theorem dX8_settle_51 : decode cX8_settle 51 = .ok (.getfield 22, 3) := by decide +kernel
theorem dX8_settle_54 : decode cX8_settle 54 = .ok (.iload 6, 2) := by decide +kernel
theorem dX8_settle_56 : decode cX8_settle 56 = .ok (.iaload, 1) := by decide +kernel
theorem dX8_settle_57 : decode cX8_settle 57 = .ok (.bipush 41, 2) := by decide +kernel
theorem dX8_settle_59 : decode cX8_settle 59 = .ok (.imul, 1) := by decide +kernel
theorem dX8_settle_60 : decode cX8_settle 60 = .ok (.isub, 1) := by decide +kernel
theorem dX8_settle_61 : decode cX8_settle 61 = .ok (.aload_n 0, 1) := by decide +kernel
theorem dX8_settle_62 : decode cX8_settle 62 = .ok (.getfield 26, 3) := by decide +kernel
theorem dX8_settle_65 : decode cX8_settle 65 = .ok (.iload 6, 2) := by decide +kernel
theorem dX8_settle_67 : decode cX8_settle 67 = .ok (.iaload, 1) := by decide +kernel
theorem dX8_settle_68 : decode cX8_settle 68 = .ok (.isub, 1) := by decide +kernel
theorem dX8_settle_69 : decode cX8_settle 69 = .ok (.istore 7, 2) := by decide +kernel
theorem dX8_settle_71 : decode cX8_settle 71 = .ok (.aload_n 0, 1) := by decide +kernel
theorem dX8_settle_72 : decode cX8_settle 72 = .ok (.getfield 33, 3) := by decide +kernel
theorem dX8_settle_75 : decode cX8_settle 75 = .ok (.iload 7, 2) := by decide +kernel
theorem dX8_settle_77 : decode cX8_settle 77 = .ok (.iaload, 1) := by decide +kernel
theorem dX8_settle_78 : decode cX8_settle 78 = .ok (.istore 8, 2) := by decide +kernel
theorem dX8_settle_80 : decode cX8_settle 80 = .ok (.aload_n 0, 1) := by decide +kernel
theorem dX8_settle_81 : decode cX8_settle 81 = .ok (.getfield 36, 3) := by decide +kernel
theorem dX8_settle_84 : decode cX8_settle 84 = .ok (.iload 7, 2) := by decide +kernel
theorem dX8_settle_86 : decode cX8_settle 86 = .ok (.iaload, 1) := by decide +kernel
theorem dX8_settle_87 : decode cX8_settle 87 = .ok (.istore 9, 2) := by decide +kernel
theorem dX8_settle_89 : decode cX8_settle 89 = .ok (.iload 8, 2) := by decide +kernel
theorem dX8_settle_91 : decode cX8_settle 91 = .ok (.ifCond .lt 21, 3) := by decide +kernel
theorem dX8_settle_94 : decode cX8_settle 94 = .ok (.iload 8, 2) := by decide +kernel
theorem dX8_settle_96 : decode cX8_settle 96 = .ok (.sipush 1681, 3) := by decide +kernel
theorem dX8_settle_99 : decode cX8_settle 99 = .ok (.if_icmp .ge 13, 3) := by decide +kernel
theorem dX8_settle_102 : decode cX8_settle 102 = .ok (.aload_n 0, 1) := by decide +kernel
theorem dX8_settle_103 : decode cX8_settle 103 = .ok (.getfield 39, 3) := by decide +kernel
theorem dX8_settle_106 : decode cX8_settle 106 = .ok (.iload 8, 2) := by decide +kernel
theorem dX8_settle_108 : decode cX8_settle 108 = .ok (.iload_n 3, 1) := by decide +kernel
theorem dX8_settle_109 : decode cX8_settle 109 = .ok (.iconst 1, 1) := by decide +kernel
theorem dX8_settle_110 : decode cX8_settle 110 = .ok (.iadd, 1) := by decide +kernel
theorem dX8_settle_111 : decode cX8_settle 111 = .ok (.iastore, 1) := by decide +kernel
theorem dX8_settle_112 : decode cX8_settle 112 = .ok (.iload 9, 2) := by decide +kernel
theorem dX8_settle_114 : decode cX8_settle 114 = .ok (.iload 4, 2) := by decide +kernel
theorem dX8_settle_116 : decode cX8_settle 116 = .ok (.if_icmp .le 7, 3) := by decide +kernel
theorem dX8_settle_119 : decode cX8_settle 119 = .ok (.iload 9, 2) := by decide +kernel
theorem dX8_settle_121 : decode cX8_settle 121 = .ok (.istore 4, 2) := by decide +kernel
theorem dX8_settle_123 : decode cX8_settle 123 = .ok (.iload 8, 2) := by decide +kernel
theorem dX8_settle_125 : decode cX8_settle 125 = .ok (.ifCond .ne 14, 3) := by decide +kernel
theorem dX8_settle_128 : decode cX8_settle 128 = .ok (.iload 9, 2) := by decide +kernel
theorem dX8_settle_130 : decode cX8_settle 130 = .ok (.iload 5, 2) := by decide +kernel
theorem dX8_settle_132 : decode cX8_settle 132 = .ok (.if_icmp .ge 7, 3) := by decide +kernel
theorem dX8_settle_135 : decode cX8_settle 135 = .ok (.iload 9, 2) := by decide +kernel
theorem dX8_settle_137 : decode cX8_settle 137 = .ok (.istore 5, 2) := by decide +kernel
theorem dX8_settle_139 : decode cX8_settle 139 = .ok (.iinc 6 1, 3) := by decide +kernel
theorem dX8_settle_142 : decode cX8_settle 142 = .ok (.goto (-124), 3) := by decide +kernel
theorem dX8_settle_145 : decode cX8_settle 145 = .ok (.iconst 0, 1) := by decide +kernel
theorem dX8_settle_146 : decode cX8_settle 146 = .ok (.istore 6, 2) := by decide +kernel
theorem dX8_settle_148 : decode cX8_settle 148 = .ok (.iload 6, 2) := by decide +kernel
theorem dX8_settle_150 : decode cX8_settle 150 = .ok (.sipush 1681, 3) := by decide +kernel
theorem dX8_settle_153 : decode cX8_settle 153 = .ok (.if_icmp .ge 22, 3) := by decide +kernel
theorem dX8_settle_156 : decode cX8_settle 156 = .ok (.aload_n 0, 1) := by decide +kernel
theorem dX8_settle_157 : decode cX8_settle 157 = .ok (.getfield 39, 3) := by decide +kernel
theorem dX8_settle_160 : decode cX8_settle 160 = .ok (.iload 6, 2) := by decide +kernel
theorem dX8_settle_162 : decode cX8_settle 162 = .ok (.iaload, 1) := by decide +kernel
theorem dX8_settle_163 : decode cX8_settle 163 = .ok (.iload_n 3, 1) := by decide +kernel
theorem dX8_settle_164 : decode cX8_settle 164 = .ok (.iconst 1, 1) := by decide +kernel
theorem dX8_settle_165 : decode cX8_settle 165 = .ok (.iadd, 1) := by decide +kernel
theorem dX8_settle_166 : decode cX8_settle 166 = .ok (.if_icmp .ne 9, 3) := by decide +kernel
theorem dX8_settle_169 : decode cX8_settle 169 = .ok (.iinc 6 1, 3) := by decide +kernel
theorem dX8_settle_172 : decode cX8_settle 172 = .ok (.goto (-24), 3) := by decide +kernel
theorem dX8_settle_175 : decode cX8_settle 175 = .ok (.aload_n 0, 1) := by decide +kernel
theorem dX8_settle_176 : decode cX8_settle 176 = .ok (.getfield 33, 3) := by decide +kernel
theorem dX8_settle_179 : decode cX8_settle 179 = .ok (.iload_n 3, 1) := by decide +kernel
theorem dX8_settle_180 : decode cX8_settle 180 = .ok (.iload 6, 2) := by decide +kernel
theorem dX8_settle_182 : decode cX8_settle 182 = .ok (.iastore, 1) := by decide +kernel
theorem dX8_settle_183 : decode cX8_settle 183 = .ok (.aload_n 0, 1) := by decide +kernel
theorem dX8_settle_184 : decode cX8_settle 184 = .ok (.getfield 36, 3) := by decide +kernel
theorem dX8_settle_187 : decode cX8_settle 187 = .ok (.iload_n 3, 1) := by decide +kernel
theorem dX8_settle_188 : decode cX8_settle 188 = .ok (.iload 6, 2) := by decide +kernel
theorem dX8_settle_190 : decode cX8_settle 190 = .ok (.ifCond .ne 10, 3) := by decide +kernel
theorem dX8_settle_193 : decode cX8_settle 193 = .ok (.iload 4, 2) := by decide +kernel
theorem dX8_settle_195 : decode cX8_settle 195 = .ok (.iconst 1, 1) := by decide +kernel
theorem dX8_settle_196 : decode cX8_settle 196 = .ok (.iadd, 1) := by decide +kernel
theorem dX8_settle_197 : decode cX8_settle 197 = .ok (.goto 7, 3) := by decide +kernel
theorem dX8_settle_200 : decode cX8_settle 200 = .ok (.iload 5, 2) := by decide +kernel
theorem dX8_settle_202 : decode cX8_settle 202 = .ok (.iconst 1, 1) := by decide +kernel
theorem dX8_settle_203 : decode cX8_settle 203 = .ok (.iadd, 1) := by decide +kernel
theorem dX8_settle_204 : decode cX8_settle 204 = .ok (.iastore, 1) := by decide +kernel
theorem dX8_settle_205 : decode cX8_settle 205 = .ok (.return_, 1) := by decide +kernel
theorem dX8_markWinningAbove_0 : decode cX8_markWinningAbove 0 = .ok (.iconst 0, 1) := by decide +kernel
theorem dX8_markWinningAbove_1 : decode cX8_markWinningAbove 1 = .ok (.istore_n 3, 1) := by decide +kernel
theorem dX8_markWinningAbove_2 : decode cX8_markWinningAbove 2 = .ok (.iload_n 3, 1) := by decide +kernel
theorem dX8_markWinningAbove_3 : decode cX8_markWinningAbove 3 = .ok (.aload_n 0, 1) := by decide +kernel
theorem dX8_markWinningAbove_4 : decode cX8_markWinningAbove 4 = .ok (.getfield 29, 3) := by decide +kernel
theorem dX8_markWinningAbove_7 : decode cX8_markWinningAbove 7 = .ok (.if_icmp .ge 61, 3) := by decide +kernel
theorem dX8_markWinningAbove_10 : decode cX8_markWinningAbove 10 = .ok (.iload_n 1, 1) := by decide +kernel
theorem dX8_markWinningAbove_11 : decode cX8_markWinningAbove 11 = .ok (.aload_n 0, 1) := by decide +kernel
theorem dX8_markWinningAbove_12 : decode cX8_markWinningAbove 12 = .ok (.getfield 22, 3) := by decide +kernel
theorem dX8_markWinningAbove_15 : decode cX8_markWinningAbove 15 = .ok (.iload_n 3, 1) := by decide +kernel
theorem dX8_markWinningAbove_16 : decode cX8_markWinningAbove 16 = .ok (.iaload, 1) := by decide +kernel
theorem dX8_markWinningAbove_17 : decode cX8_markWinningAbove 17 = .ok (.iadd, 1) := by decide +kernel
theorem dX8_markWinningAbove_18 : decode cX8_markWinningAbove 18 = .ok (.bipush 40, 2) := by decide +kernel
theorem dX8_markWinningAbove_20 : decode cX8_markWinningAbove 20 = .ok (.if_icmp .gt 48, 3) := by decide +kernel
theorem dX8_markWinningAbove_23 : decode cX8_markWinningAbove 23 = .ok (.iload_n 2, 1) := by decide +kernel
theorem dX8_markWinningAbove_24 : decode cX8_markWinningAbove 24 = .ok (.aload_n 0, 1) := by decide +kernel
theorem dX8_markWinningAbove_25 : decode cX8_markWinningAbove 25 = .ok (.getfield 26, 3) := by decide +kernel
theorem dX8_markWinningAbove_28 : decode cX8_markWinningAbove 28 = .ok (.iload_n 3, 1) := by decide +kernel
theorem dX8_markWinningAbove_29 : decode cX8_markWinningAbove 29 = .ok (.iaload, 1) := by decide +kernel
theorem dX8_markWinningAbove_30 : decode cX8_markWinningAbove 30 = .ok (.iadd, 1) := by decide +kernel
theorem dX8_markWinningAbove_31 : decode cX8_markWinningAbove 31 = .ok (.bipush 40, 2) := by decide +kernel
theorem dX8_markWinningAbove_33 : decode cX8_markWinningAbove 33 = .ok (.if_icmp .gt 29, 3) := by decide +kernel
theorem dX8_markWinningAbove_36 : decode cX8_markWinningAbove 36 = .ok (.aload_n 0, 1) := by decide +kernel
theorem dX8_markWinningAbove_37 : decode cX8_markWinningAbove 37 = .ok (.getfield 33, 3) := by decide +kernel
theorem dX8_markWinningAbove_40 : decode cX8_markWinningAbove 40 = .ok (.iload_n 1, 1) := by decide +kernel
theorem dX8_markWinningAbove_41 : decode cX8_markWinningAbove 41 = .ok (.aload_n 0, 1) := by decide +kernel
theorem dX8_markWinningAbove_42 : decode cX8_markWinningAbove 42 = .ok (.getfield 22, 3) := by decide +kernel
theorem dX8_markWinningAbove_45 : decode cX8_markWinningAbove 45 = .ok (.iload_n 3, 1) := by decide +kernel
theorem dX8_markWinningAbove_46 : decode cX8_markWinningAbove 46 = .ok (.iaload, 1) := by decide +kernel
theorem dX8_markWinningAbove_47 : decode cX8_markWinningAbove 47 = .ok (.iadd, 1) := by decide +kernel
theorem dX8_markWinningAbove_48 : decode cX8_markWinningAbove 48 = .ok (.bipush 41, 2) := by decide +kernel
theorem dX8_markWinningAbove_50 : decode cX8_markWinningAbove 50 = .ok (.imul, 1) := by decide +kernel
theorem dX8_markWinningAbove_51 : decode cX8_markWinningAbove 51 = .ok (.iload_n 2, 1) := by decide +kernel
theorem dX8_markWinningAbove_52 : decode cX8_markWinningAbove 52 = .ok (.iadd, 1) := by decide +kernel
theorem dX8_markWinningAbove_53 : decode cX8_markWinningAbove 53 = .ok (.aload_n 0, 1) := by decide +kernel
theorem dX8_markWinningAbove_54 : decode cX8_markWinningAbove 54 = .ok (.getfield 26, 3) := by decide +kernel
theorem dX8_markWinningAbove_57 : decode cX8_markWinningAbove 57 = .ok (.iload_n 3, 1) := by decide +kernel
theorem dX8_markWinningAbove_58 : decode cX8_markWinningAbove 58 = .ok (.iaload, 1) := by decide +kernel
theorem dX8_markWinningAbove_59 : decode cX8_markWinningAbove 59 = .ok (.iadd, 1) := by decide +kernel
theorem dX8_markWinningAbove_60 : decode cX8_markWinningAbove 60 = .ok (.iconst 1, 1) := by decide +kernel
theorem dX8_markWinningAbove_61 : decode cX8_markWinningAbove 61 = .ok (.iastore, 1) := by decide +kernel
theorem dX8_markWinningAbove_62 : decode cX8_markWinningAbove 62 = .ok (.iinc 3 1, 3) := by decide +kernel
theorem dX8_markWinningAbove_65 : decode cX8_markWinningAbove 65 = .ok (.goto (-63), 3) := by decide +kernel
theorem dX8_markWinningAbove_68 : decode cX8_markWinningAbove 68 = .ok (.return_, 1) := by decide +kernel
