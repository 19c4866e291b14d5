theorem dL_partner_0 : decode cL_partner 0 = .ok (.aload_n 3, 1) := by decide +kernel
theorem dL_partner_1 : decode cL_partner 1 = .ok (.iconst 0, 1) := by decide +kernel
theorem dL_partner_2 : decode cL_partner 2 = .ok (.aload_n 0, 1) := by decide +kernel
theorem dL_partner_3 : decode cL_partner 3 = .ok (.iload_n 1, 1) := by decide +kernel
theorem dL_partner_4 : decode cL_partner 4 = .ok (.iload_n 2, 1) := by decide +kernel
theorem dL_partner_5 : decode cL_partner 5 = .ok (.invokevirtual 57, 3) := by decide +kernel
theorem dL_partner_8 : decode cL_partner 8 = .ok (.i2l, 1) := by decide +kernel
theorem dL_partner_9 : decode cL_partner 9 = .ok (.lastore, 1) := by decide +kernel
theorem dL_partner_10 : decode cL_partner 10 = .ok (.goto 11, 3) := by decide +kernel
theorem dL_partner_13 : decode cL_partner 13 = .ok (.astore 4, 2) := by decide +kernel
theorem dL_partner_15 : decode cL_partner 15 = .ok (.iconst 1, 1) := by decide +kernel
theorem dL_partner_16 : decode cL_partner 16 = .ok (.ireturn, 1) := by decide +kernel
theorem dL_partner_17 : decode cL_partner 17 = .ok (.astore 4, 2) := by decide +kernel
theorem dL_partner_19 : decode cL_partner 19 = .ok (.iconst 2, 1) := by decide +kernel
theorem dL_partner_20 : decode cL_partner 20 = .ok (.ireturn, 1) := by decide +kernel
theorem dL_partner_21 : decode cL_partner 21 = .ok (.iconst 0, 1) := by decide +kernel
theorem dL_partner_22 : decode cL_partner 22 = .ok (.ireturn, 1) := by decide +kernel
theorem dL_golden_0 : decode cL_golden 0 = .ok (.aload 4, 2) := by decide +kernel
theorem dL_golden_2 : decode cL_golden 2 = .ok (.iconst 0, 1) := by decide +kernel
theorem dL_golden_3 : decode cL_golden 3 = .ok (.aload_n 0, 1) := by decide +kernel
theorem dL_golden_4 : decode cL_golden 4 = .ok (.iload_n 1, 1) := by decide +kernel
theorem dL_golden_5 : decode cL_golden 5 = .ok (.iload_n 2, 1) := by decide +kernel
theorem dL_golden_6 : decode cL_golden 6 = .ok (.iload_n 3, 1) := by decide +kernel
theorem dL_golden_7 : decode cL_golden 7 = .ok (.invokevirtual 60, 3) := by decide +kernel
theorem dL_golden_10 : decode cL_golden 10 = .ok (.i2l, 1) := by decide +kernel
theorem dL_golden_11 : decode cL_golden 11 = .ok (.lastore, 1) := by decide +kernel
theorem dL_golden_12 : decode cL_golden 12 = .ok (.goto 7, 3) := by decide +kernel
theorem dL_golden_15 : decode cL_golden 15 = .ok (.astore 5, 2) := by decide +kernel
theorem dL_golden_17 : decode cL_golden 17 = .ok (.iconst 1, 1) := by decide +kernel
theorem dL_golden_18 : decode cL_golden 18 = .ok (.ireturn, 1) := by decide +kernel
theorem dL_golden_19 : decode cL_golden 19 = .ok (.iconst 0, 1) := by decide +kernel
theorem dL_golden_20 : decode cL_golden 20 = .ok (.ireturn, 1) := by decide +kernel
theorem dL_goldenOf_0 : decode cL_goldenOf 0 = .ok (.aload_n 3, 1) := by decide +kernel
theorem dL_goldenOf_1 : decode cL_goldenOf 1 = .ok (.iconst 0, 1) := by decide +kernel
theorem dL_goldenOf_2 : decode cL_goldenOf 2 = .ok (.aload_n 0, 1) := by decide +kernel
theorem dL_goldenOf_3 : decode cL_goldenOf 3 = .ok (.iload_n 1, 1) := by decide +kernel
theorem dL_goldenOf_4 : decode cL_goldenOf 4 = .ok (.iload_n 2, 1) := by decide +kernel
theorem dL_goldenOf_5 : decode cL_goldenOf 5 = .ok (.invokevirtual 63, 3) := by decide +kernel
theorem dL_goldenOf_8 : decode cL_goldenOf 8 = .ok (.i2l, 1) := by decide +kernel
theorem dL_goldenOf_9 : decode cL_goldenOf 9 = .ok (.lastore, 1) := by decide +kernel
theorem dL_goldenOf_10 : decode cL_goldenOf 10 = .ok (.goto 7, 3) := by decide +kernel
theorem dL_goldenOf_13 : decode cL_goldenOf 13 = .ok (.astore 4, 2) := by decide +kernel
theorem dL_goldenOf_15 : decode cL_goldenOf 15 = .ok (.iconst 1, 1) := by decide +kernel
theorem dL_goldenOf_16 : decode cL_goldenOf 16 = .ok (.ireturn, 1) := by decide +kernel
theorem dL_goldenOf_17 : decode cL_goldenOf 17 = .ok (.iconst 0, 1) := by decide +kernel
theorem dL_goldenOf_18 : decode cL_goldenOf 18 = .ok (.ireturn, 1) := by decide +kernel
theorem dL_goldenPartner_0 : decode cL_goldenPartner 0 = .ok (.aload_n 3, 1) := by decide +kernel
theorem dL_goldenPartner_1 : decode cL_goldenPartner 1 = .ok (.iconst 0, 1) := by decide +kernel
theorem dL_goldenPartner_2 : decode cL_goldenPartner 2 = .ok (.aload_n 0, 1) := by decide +kernel
theorem dL_goldenPartner_3 : decode cL_goldenPartner 3 = .ok (.iload_n 1, 1) := by decide +kernel
theorem dL_goldenPartner_4 : decode cL_goldenPartner 4 = .ok (.iload_n 2, 1) := by decide +kernel
theorem dL_goldenPartner_5 : decode cL_goldenPartner 5 = .ok (.invokevirtual 66, 3) := by decide +kernel
theorem dL_goldenPartner_8 : decode cL_goldenPartner 8 = .ok (.lastore, 1) := by decide +kernel
theorem dL_goldenPartner_9 : decode cL_goldenPartner 9 = .ok (.goto 7, 3) := by decide +kernel
theorem dL_goldenPartner_12 : decode cL_goldenPartner 12 = .ok (.astore 4, 2) := by decide +kernel
theorem dL_goldenPartner_14 : decode cL_goldenPartner 14 = .ok (.iconst 1, 1) := by decide +kernel
theorem dL_goldenPartner_15 : decode cL_goldenPartner 15 = .ok (.ireturn, 1) := by decide +kernel
theorem dL_goldenPartner_16 : decode cL_goldenPartner 16 = .ok (.iconst 0, 1) := by decide +kernel
theorem dL_goldenPartner_17 : decode cL_goldenPartner 17 = .ok (.ireturn, 1) := by decide +kernel
theorem dL_goldenMany_0 : decode cL_goldenMany 0 = .ok (.aload_n 3, 1) := by decide +kernel
theorem dL_goldenMany_1 : decode cL_goldenMany 1 = .ok (.iconst 0, 1) := by decide +kernel
theorem dL_goldenMany_2 : decode cL_goldenMany 2 = .ok (.aload_n 0, 1) := by decide +kernel
theorem dL_goldenMany_3 : decode cL_goldenMany 3 = .ok (.iload_n 1, 1) := by decide +kernel
theorem dL_goldenMany_4 : decode cL_goldenMany 4 = .ok (.iload_n 2, 1) := by decide +kernel
theorem dL_goldenMany_5 : decode cL_goldenMany 5 = .ok (.invokevirtual 70, 3) := by decide +kernel
theorem dL_goldenMany_8 : decode cL_goldenMany 8 = .ok (.i2l, 1) := by decide +kernel
theorem dL_goldenMany_9 : decode cL_goldenMany 9 = .ok (.lastore, 1) := by decide +kernel
theorem dL_goldenMany_10 : decode cL_goldenMany 10 = .ok (.goto 7, 3) := by decide +kernel
theorem dL_goldenMany_13 : decode cL_goldenMany 13 = .ok (.astore 4, 2) := by decide +kernel
theorem dL_goldenMany_15 : decode cL_goldenMany 15 = .ok (.iconst 1, 1) := by decide +kernel
theorem dL_goldenMany_16 : decode cL_goldenMany 16 = .ok (.ireturn, 1) := by decide +kernel
theorem dL_goldenMany_17 : decode cL_goldenMany 17 = .ok (.iconst 0, 1) := by decide +kernel
theorem dL_goldenMany_18 : decode cL_goldenMany 18 = .ok (.ireturn, 1) := by decide +kernel
theorem dL_summand_0 : decode cL_summand 0 = .ok (.aload_n 3, 1) := by decide +kernel
theorem dL_summand_1 : decode cL_summand 1 = .ok (.iconst 0, 1) := by decide +kernel
theorem dL_summand_2 : decode cL_summand 2 = .ok (.aload_n 0, 1) := by decide +kernel
theorem dL_summand_3 : decode cL_summand 3 = .ok (.iload_n 1, 1) := by decide +kernel
theorem dL_summand_4 : decode cL_summand 4 = .ok (.iload_n 2, 1) := by decide +kernel
theorem dL_summand_5 : decode cL_summand 5 = .ok (.invokevirtual 73, 3) := by decide +kernel
theorem dL_summand_8 : decode cL_summand 8 = .ok (.i2l, 1) := by decide +kernel
theorem dL_summand_9 : decode cL_summand 9 = .ok (.lastore, 1) := by decide +kernel
theorem dL_summand_10 : decode cL_summand 10 = .ok (.goto 7, 3) := by decide +kernel
theorem dL_summand_13 : decode cL_summand 13 = .ok (.astore 4, 2) := by decide +kernel
theorem dL_summand_15 : decode cL_summand 15 = .ok (.iconst 1, 1) := by decide +kernel
theorem dL_summand_16 : decode cL_summand 16 = .ok (.ireturn, 1) := by decide +kernel
theorem dL_summand_17 : decode cL_summand 17 = .ok (.iconst 0, 1) := by decide +kernel
theorem dL_summand_18 : decode cL_summand 18 = .ok (.ireturn, 1) := by decide +kernel
theorem dL_leastPlace_0 : decode cL_leastPlace 0 = .ok (.aload_n 2, 1) := by decide +kernel
theorem dL_leastPlace_1 : decode cL_leastPlace 1 = .ok (.iconst 0, 1) := by decide +kernel
theorem dL_leastPlace_2 : decode cL_leastPlace 2 = .ok (.aload_n 0, 1) := by decide +kernel
theorem dL_leastPlace_3 : decode cL_leastPlace 3 = .ok (.iload_n 1, 1) := by decide +kernel
theorem dL_leastPlace_4 : decode cL_leastPlace 4 = .ok (.invokevirtual 76, 3) := by decide +kernel
theorem dL_leastPlace_7 : decode cL_leastPlace 7 = .ok (.i2l, 1) := by decide +kernel
theorem dL_leastPlace_8 : decode cL_leastPlace 8 = .ok (.lastore, 1) := by decide +kernel
theorem dL_leastPlace_9 : decode cL_leastPlace 9 = .ok (.goto 6, 3) := by decide +kernel
theorem dL_leastPlace_12 : decode cL_leastPlace 12 = .ok (.astore_n 3, 1) := by decide +kernel
theorem dL_leastPlace_13 : decode cL_leastPlace 13 = .ok (.iconst 1, 1) := by decide +kernel
theorem dL_leastPlace_14 : decode cL_leastPlace 14 = .ok (.ireturn, 1) := by decide +kernel
theorem dL_leastPlace_15 : decode cL_leastPlace 15 = .ok (.iconst 0, 1) := by decide +kernel
theorem dL_leastPlace_16 : decode cL_leastPlace 16 = .ok (.ireturn, 1) := by decide +kernel
theorem dL_gap_0 : decode cL_gap 0 = .ok (.aload_n 2, 1) := by decide +kernel
theorem dL_gap_1 : decode cL_gap 1 = .ok (.iconst 0, 1) := by decide +kernel
theorem dL_gap_2 : decode cL_gap 2 = .ok (.aload_n 0, 1) := by decide +kernel
theorem dL_gap_3 : decode cL_gap 3 = .ok (.iload_n 1, 1) := by decide +kernel
theorem dL_gap_4 : decode cL_gap 4 = .ok (.invokevirtual 79, 3) := by decide +kernel
theorem dL_gap_7 : decode cL_gap 7 = .ok (.i2l, 1) := by decide +kernel
theorem dL_gap_8 : decode cL_gap 8 = .ok (.lastore, 1) := by decide +kernel
theorem dL_gap_9 : decode cL_gap 9 = .ok (.goto 6, 3) := by decide +kernel
theorem dL_gap_12 : decode cL_gap 12 = .ok (.astore_n 3, 1) := by decide +kernel
theorem dL_gap_13 : decode cL_gap 13 = .ok (.iconst 1, 1) := by decide +kernel
theorem dL_gap_14 : decode cL_gap 14 = .ok (.ireturn, 1) := by decide +kernel
theorem dL_gap_15 : decode cL_gap 15 = .ok (.iconst 0, 1) := by decide +kernel
theorem dL_gap_16 : decode cL_gap 16 = .ok (.ireturn, 1) := by decide +kernel
theorem dL_advice_0 : decode cL_advice 0 = .ok (.aload_n 2, 1) := by decide +kernel
theorem dL_advice_1 : decode cL_advice 1 = .ok (.iconst 0, 1) := by decide +kernel
theorem dL_advice_2 : decode cL_advice 2 = .ok (.aload_n 0, 1) := by decide +kernel
theorem dL_advice_3 : decode cL_advice 3 = .ok (.iload_n 1, 1) := by decide +kernel
theorem dL_advice_4 : decode cL_advice 4 = .ok (.invokevirtual 82, 3) := by decide +kernel
theorem dL_advice_7 : decode cL_advice 7 = .ok (.i2l, 1) := by decide +kernel
theorem dL_advice_8 : decode cL_advice 8 = .ok (.lastore, 1) := by decide +kernel
theorem dL_advice_9 : decode cL_advice 9 = .ok (.goto 6, 3) := by decide +kernel
theorem dL_advice_12 : decode cL_advice 12 = .ok (.astore_n 3, 1) := by decide +kernel
theorem dL_advice_13 : decode cL_advice 13 = .ok (.iconst 1, 1) := by decide +kernel
theorem dL_advice_14 : decode cL_advice 14 = .ok (.ireturn, 1) := by decide +kernel
theorem dL_advice_15 : decode cL_advice 15 = .ok (.iconst 0, 1) := by decide +kernel
theorem dL_advice_16 : decode cL_advice 16 = .ok (.ireturn, 1) := by decide +kernel
theorem dL_totalBehind_0 : decode cL_totalBehind 0 = .ok (.aload 4, 2) := by decide +kernel
theorem dL_totalBehind_2 : decode cL_totalBehind 2 = .ok (.iconst 0, 1) := by decide +kernel
theorem dL_totalBehind_3 : decode cL_totalBehind 3 = .ok (.aload_n 0, 1) := by decide +kernel
theorem dL_totalBehind_4 : decode cL_totalBehind 4 = .ok (.iload_n 1, 1) := by decide +kernel
theorem dL_totalBehind_5 : decode cL_totalBehind 5 = .ok (.iload_n 2, 1) := by decide +kernel
theorem dL_totalBehind_6 : decode cL_totalBehind 6 = .ok (.iload_n 3, 1) := by decide +kernel
theorem dL_totalBehind_7 : decode cL_totalBehind 7 = .ok (.invokevirtual 85, 3) := by decide +kernel
theorem dL_totalBehind_10 : decode cL_totalBehind 10 = .ok (.i2l, 1) := by decide +kernel
theorem dL_totalBehind_11 : decode cL_totalBehind 11 = .ok (.lastore, 1) := by decide +kernel
theorem dL_totalBehind_12 : decode cL_totalBehind 12 = .ok (.goto 7, 3) := by decide +kernel
theorem dL_totalBehind_15 : decode cL_totalBehind 15 = .ok (.astore 5, 2) := by decide +kernel
theorem dL_totalBehind_17 : decode cL_totalBehind 17 = .ok (.iconst 1, 1) := by decide +kernel
theorem dL_totalBehind_18 : decode cL_totalBehind 18 = .ok (.ireturn, 1) := by decide +kernel
theorem dL_totalBehind_19 : decode cL_totalBehind 19 = .ok (.iconst 0, 1) := by decide +kernel
theorem dL_totalBehind_20 : decode cL_totalBehind 20 = .ok (.ireturn, 1) := by decide +kernel
theorem dL_changedBy_0 : decode cL_changedBy 0 = .ok (.aload 4, 2) := by decide +kernel
theorem dL_changedBy_2 : decode cL_changedBy 2 = .ok (.iconst 0, 1) := by decide +kernel
theorem dL_changedBy_3 : decode cL_changedBy 3 = .ok (.aload_n 0, 1) := by decide +kernel
theorem dL_changedBy_4 : decode cL_changedBy 4 = .ok (.iload_n 1, 1) := by decide +kernel
theorem dL_changedBy_5 : decode cL_changedBy 5 = .ok (.iload_n 2, 1) := by decide +kernel
theorem dL_changedBy_6 : decode cL_changedBy 6 = .ok (.iload_n 3, 1) := by decide +kernel
theorem dL_changedBy_7 : decode cL_changedBy 7 = .ok (.invokevirtual 88, 3) := by decide +kernel
theorem dL_changedBy_10 : decode cL_changedBy 10 = .ok (.i2l, 1) := by decide +kernel
theorem dL_changedBy_11 : decode cL_changedBy 11 = .ok (.lastore, 1) := by decide +kernel
theorem dL_changedBy_12 : decode cL_changedBy 12 = .ok (.goto 11, 3) := by decide +kernel
theorem dL_changedBy_15 : decode cL_changedBy 15 = .ok (.astore 5, 2) := by decide +kernel
theorem dL_changedBy_17 : decode cL_changedBy 17 = .ok (.iconst 1, 1) := by decide +kernel
theorem dL_changedBy_18 : decode cL_changedBy 18 = .ok (.ireturn, 1) := by decide +kernel
theorem dL_changedBy_19 : decode cL_changedBy 19 = .ok (.astore 5, 2) := by decide +kernel
theorem dL_changedBy_21 : decode cL_changedBy 21 = .ok (.iconst 2, 1) := by decide +kernel
theorem dL_changedBy_22 : decode cL_changedBy 22 = .ok (.ireturn, 1) := by decide +kernel
theorem dL_changedBy_23 : decode cL_changedBy 23 = .ok (.iconst 0, 1) := by decide +kernel
theorem dL_changedBy_24 : decode cL_changedBy 24 = .ok (.ireturn, 1) := by decide +kernel
theorem dL_losingWith_0 : decode cL_losingWith 0 = .ok (.aload_n 3, 1) := by decide +kernel
theorem dL_losingWith_1 : decode cL_losingWith 1 = .ok (.iconst 0, 1) := by decide +kernel
theorem dL_losingWith_2 : decode cL_losingWith 2 = .ok (.aload_n 0, 1) := by decide +kernel
theorem dL_losingWith_3 : decode cL_losingWith 3 = .ok (.iload_n 1, 1) := by decide +kernel
theorem dL_losingWith_4 : decode cL_losingWith 4 = .ok (.iload_n 2, 1) := by decide +kernel
theorem dL_losingWith_5 : decode cL_losingWith 5 = .ok (.invokevirtual 91, 3) := by decide +kernel
theorem dL_losingWith_8 : decode cL_losingWith 8 = .ok (.i2l, 1) := by decide +kernel
theorem dL_losingWith_9 : decode cL_losingWith 9 = .ok (.lastore, 1) := by decide +kernel
theorem dL_losingWith_10 : decode cL_losingWith 10 = .ok (.goto 11, 3) := by decide +kernel
theorem dL_losingWith_13 : decode cL_losingWith 13 = .ok (.astore 4, 2) := by decide +kernel
theorem dL_losingWith_15 : decode cL_losingWith 15 = .ok (.iconst 1, 1) := by decide +kernel
theorem dL_losingWith_16 : decode cL_losingWith 16 = .ok (.ireturn, 1) := by decide +kernel
theorem dL_losingWith_17 : decode cL_losingWith 17 = .ok (.astore 4, 2) := by decide +kernel
theorem dL_losingWith_19 : decode cL_losingWith 19 = .ok (.iconst 2, 1) := by decide +kernel
theorem dL_losingWith_20 : decode cL_losingWith 20 = .ok (.ireturn, 1) := by decide +kernel
theorem dL_losingWith_21 : decode cL_losingWith 21 = .ok (.iconst 0, 1) := by decide +kernel
theorem dL_losingWith_22 : decode cL_losingWith 22 = .ok (.ireturn, 1) := by decide +kernel
theorem dL_share_0 : decode cL_share 0 = .ok (.aload_n 2, 1) := by decide +kernel
theorem dL_share_1 : decode cL_share 1 = .ok (.iconst 0, 1) := by decide +kernel
theorem dL_share_2 : decode cL_share 2 = .ok (.aload_n 0, 1) := by decide +kernel
theorem dL_share_3 : decode cL_share 3 = .ok (.iload_n 1, 1) := by decide +kernel
theorem dL_share_4 : decode cL_share 4 = .ok (.invokevirtual 94, 3) := by decide +kernel
theorem dL_share_7 : decode cL_share 7 = .ok (.f2d, 1) := by decide +kernel
theorem dL_share_8 : decode cL_share 8 = .ok (.dastore, 1) := by decide +kernel
theorem dL_share_9 : decode cL_share 9 = .ok (.goto 6, 3) := by decide +kernel
theorem dL_share_12 : decode cL_share 12 = .ok (.astore_n 3, 1) := by decide +kernel
theorem dL_share_13 : decode cL_share 13 = .ok (.iconst 1, 1) := by decide +kernel
theorem dL_share_14 : decode cL_share 14 = .ok (.ireturn, 1) := by decide +kernel
theorem dL_share_15 : decode cL_share 15 = .ok (.iconst 0, 1) := by decide +kernel
theorem dL_share_16 : decode cL_share 16 = .ok (.ireturn, 1) := by decide +kernel
theorem dL_meanValue_0 : decode cL_meanValue 0 = .ok (.aload_n 2, 1) := by decide +kernel
theorem dL_meanValue_1 : decode cL_meanValue 1 = .ok (.iconst 0, 1) := by decide +kernel
theorem dL_meanValue_2 : decode cL_meanValue 2 = .ok (.aload_n 0, 1) := by decide +kernel
theorem dL_meanValue_3 : decode cL_meanValue 3 = .ok (.iload_n 1, 1) := by decide +kernel
theorem dL_meanValue_4 : decode cL_meanValue 4 = .ok (.invokevirtual 98, 3) := by decide +kernel
theorem dL_meanValue_7 : decode cL_meanValue 7 = .ok (.dastore, 1) := by decide +kernel
theorem dL_meanValue_8 : decode cL_meanValue 8 = .ok (.goto 6, 3) := by decide +kernel
theorem dL_meanValue_11 : decode cL_meanValue 11 = .ok (.astore_n 3, 1) := by decide +kernel
theorem dL_meanValue_12 : decode cL_meanValue 12 = .ok (.iconst 1, 1) := by decide +kernel
theorem dL_meanValue_13 : decode cL_meanValue 13 = .ok (.ireturn, 1) := by decide +kernel
theorem dL_meanValue_14 : decode cL_meanValue 14 = .ok (.iconst 0, 1) := by decide +kernel
theorem dL_meanValue_15 : decode cL_meanValue 15 = .ok (.ireturn, 1) := by decide +kernel
theorem dL_move_0 : decode cL_move 0 = .ok (.aload 4, 2) := by decide +kernel
theorem dL_move_2 : decode cL_move 2 = .ok (.iconst 0, 1) := by decide +kernel
theorem dL_move_3 : decode cL_move 3 = .ok (.aload_n 0, 1) := by decide +kernel
theorem dL_move_4 : decode cL_move 4 = .ok (.iload_n 1, 1) := by decide +kernel
theorem dL_move_5 : decode cL_move 5 = .ok (.iload_n 2, 1) := by decide +kernel
theorem dL_move_6 : decode cL_move 6 = .ok (.iload_n 3, 1) := by decide +kernel
theorem dL_move_7 : decode cL_move 7 = .ok (.invokevirtual 102, 3) := by decide +kernel
theorem dL_move_10 : decode cL_move 10 = .ok (.i2l, 1) := by decide +kernel
theorem dL_move_11 : decode cL_move 11 = .ok (.lastore, 1) := by decide +kernel
theorem dL_move_12 : decode cL_move 12 = .ok (.goto 11, 3) := by decide +kernel
theorem dL_move_15 : decode cL_move 15 = .ok (.astore 5, 2) := by decide +kernel
theorem dL_move_17 : decode cL_move 17 = .ok (.iconst 1, 1) := by decide +kernel
theorem dL_move_18 : decode cL_move 18 = .ok (.ireturn, 1) := by decide +kernel
theorem dL_move_19 : decode cL_move 19 = .ok (.astore 5, 2) := by decide +kernel
theorem dL_move_21 : decode cL_move 21 = .ok (.iconst 2, 1) := by decide +kernel
theorem dL_move_22 : decode cL_move 22 = .ok (.ireturn, 1) := by decide +kernel
theorem dL_move_23 : decode cL_move 23 = .ok (.iconst 0, 1) := by decide +kernel
theorem dL_move_24 : decode cL_move 24 = .ok (.ireturn, 1) := by decide +kernel
theorem dL_follow_0 : decode cL_follow 0 = .ok (.aload_n 2, 1) := by decide +kernel
theorem dL_follow_1 : decode cL_follow 1 = .ok (.iconst 0, 1) := by decide +kernel
theorem dL_follow_2 : decode cL_follow 2 = .ok (.aload_n 0, 1) := by decide +kernel
theorem dL_follow_3 : decode cL_follow 3 = .ok (.iload_n 1, 1) := by decide +kernel
theorem dL_follow_4 : decode cL_follow 4 = .ok (.invokevirtual 107, 3) := by decide +kernel
theorem dL_follow_7 : decode cL_follow 7 = .ok (.i2l, 1) := by decide +kernel
theorem dL_follow_8 : decode cL_follow 8 = .ok (.lastore, 1) := by decide +kernel
theorem dL_follow_9 : decode cL_follow 9 = .ok (.goto 6, 3) := by decide +kernel
theorem dL_follow_12 : decode cL_follow 12 = .ok (.astore_n 3, 1) := by decide +kernel
theorem dL_follow_13 : decode cL_follow 13 = .ok (.iconst 1, 1) := by decide +kernel
theorem dL_follow_14 : decode cL_follow 14 = .ok (.ireturn, 1) := by decide +kernel
theorem dL_follow_15 : decode cL_follow 15 = .ok (.iconst 0, 1) := by decide +kernel
theorem dL_follow_16 : decode cL_follow 16 = .ok (.ireturn, 1) := by decide +kernel
theorem dL_bar_0 : decode cL_bar 0 = .ok (.aload 5, 2) := by decide +kernel
theorem dL_bar_2 : decode cL_bar 2 = .ok (.iconst 0, 1) := by decide +kernel
theorem dL_bar_3 : decode cL_bar 3 = .ok (.aload_n 0, 1) := by decide +kernel
theorem dL_bar_4 : decode cL_bar 4 = .ok (.iload_n 1, 1) := by decide +kernel
theorem dL_bar_5 : decode cL_bar 5 = .ok (.iload_n 2, 1) := by decide +kernel
theorem dL_bar_6 : decode cL_bar 6 = .ok (.iload_n 3, 1) := by decide +kernel
theorem dL_bar_7 : decode cL_bar 7 = .ok (.iload 4, 2) := by decide +kernel
theorem dL_bar_9 : decode cL_bar 9 = .ok (.invokevirtual 110, 3) := by decide +kernel
theorem dL_bar_12 : decode cL_bar 12 = .ok (.i2l, 1) := by decide +kernel
theorem dL_bar_13 : decode cL_bar 13 = .ok (.lastore, 1) := by decide +kernel
theorem dL_bar_14 : decode cL_bar 14 = .ok (.goto 15, 3) := by decide +kernel
theorem dL_bar_17 : decode cL_bar 17 = .ok (.astore 6, 2) := by decide +kernel
theorem dL_bar_19 : decode cL_bar 19 = .ok (.iconst 1, 1) := by decide +kernel
theorem dL_bar_20 : decode cL_bar 20 = .ok (.ireturn, 1) := by decide +kernel
theorem dL_bar_21 : decode cL_bar 21 = .ok (.astore 6, 2) := by decide +kernel
theorem dL_bar_23 : decode cL_bar 23 = .ok (.iconst 2, 1) := by decide +kernel
theorem dL_bar_24 : decode cL_bar 24 = .ok (.ireturn, 1) := by decide +kernel
theorem dL_bar_25 : decode cL_bar 25 = .ok (.astore 6, 2) := by decide +kernel
theorem dL_bar_27 : decode cL_bar 27 = .ok (.iconst 3, 1) := by decide +kernel
theorem dL_bar_28 : decode cL_bar 28 = .ok (.ireturn, 1) := by decide +kernel
theorem dL_bar_29 : decode cL_bar 29 = .ok (.iconst 0, 1) := by decide +kernel
theorem dL_bar_30 : decode cL_bar 30 = .ok (.ireturn, 1) := by decide +kernel
theorem dL_setSlack_0 : decode cL_setSlack 0 = .ok (.aload_n 3, 1) := by decide +kernel
theorem dL_setSlack_1 : decode cL_setSlack 1 = .ok (.iconst 0, 1) := by decide +kernel
theorem dL_setSlack_2 : decode cL_setSlack 2 = .ok (.aload_n 0, 1) := by decide +kernel
theorem dL_setSlack_3 : decode cL_setSlack 3 = .ok (.iload_n 1, 1) := by decide +kernel
theorem dL_setSlack_4 : decode cL_setSlack 4 = .ok (.iload_n 2, 1) := by decide +kernel
theorem dL_setSlack_5 : decode cL_setSlack 5 = .ok (.invokevirtual 114, 3) := by decide +kernel
theorem dL_setSlack_8 : decode cL_setSlack 8 = .ok (.i2l, 1) := by decide +kernel
theorem dL_setSlack_9 : decode cL_setSlack 9 = .ok (.lastore, 1) := by decide +kernel
theorem dL_setSlack_10 : decode cL_setSlack 10 = .ok (.goto 11, 3) := by decide +kernel
theorem dL_setSlack_13 : decode cL_setSlack 13 = .ok (.astore 4, 2) := by decide +kernel
theorem dL_setSlack_15 : decode cL_setSlack 15 = .ok (.iconst 1, 1) := by decide +kernel
theorem dL_setSlack_16 : decode cL_setSlack 16 = .ok (.ireturn, 1) := by decide +kernel
theorem dL_setSlack_17 : decode cL_setSlack 17 = .ok (.astore 4, 2) := by decide +kernel
theorem dL_setSlack_19 : decode cL_setSlack 19 = .ok (.iconst 2, 1) := by decide +kernel
theorem dL_setSlack_20 : decode cL_setSlack 20 = .ok (.ireturn, 1) := by decide +kernel
theorem dL_setSlack_21 : decode cL_setSlack 21 = .ok (.iconst 0, 1) := by decide +kernel
theorem dL_setSlack_22 : decode cL_setSlack 22 = .ok (.ireturn, 1) := by decide +kernel
theorem dL_setMost_0 : decode cL_setMost 0 = .ok (.aload_n 3, 1) := by decide +kernel
theorem dL_setMost_1 : decode cL_setMost 1 = .ok (.iconst 0, 1) := by decide +kernel
theorem dL_setMost_2 : decode cL_setMost 2 = .ok (.aload_n 0, 1) := by decide +kernel
theorem dL_setMost_3 : decode cL_setMost 3 = .ok (.iload_n 1, 1) := by decide +kernel
theorem dL_setMost_4 : decode cL_setMost 4 = .ok (.iload_n 2, 1) := by decide +kernel
theorem dL_setMost_5 : decode cL_setMost 5 = .ok (.invokevirtual 117, 3) := by decide +kernel
theorem dL_setMost_8 : decode cL_setMost 8 = .ok (.i2l, 1) := by decide +kernel
theorem dL_setMost_9 : decode cL_setMost 9 = .ok (.lastore, 1) := by decide +kernel
theorem dL_setMost_10 : decode cL_setMost 10 = .ok (.goto 11, 3) := by decide +kernel
theorem dL_setMost_13 : decode cL_setMost 13 = .ok (.astore 4, 2) := by decide +kernel
theorem dL_setMost_15 : decode cL_setMost 15 = .ok (.iconst 1, 1) := by decide +kernel
theorem dL_setMost_16 : decode cL_setMost 16 = .ok (.ireturn, 1) := by decide +kernel
theorem dL_setMost_17 : decode cL_setMost 17 = .ok (.astore 4, 2) := by decide +kernel
theorem dL_setMost_19 : decode cL_setMost 19 = .ok (.iconst 2, 1) := by decide +kernel
theorem dL_setMost_20 : decode cL_setMost 20 = .ok (.ireturn, 1) := by decide +kernel
theorem dL_setMost_21 : decode cL_setMost 21 = .ok (.iconst 0, 1) := by decide +kernel
theorem dL_setMost_22 : decode cL_setMost 22 = .ok (.ireturn, 1) := by decide +kernel
theorem dL_again_0 : decode cL_again 0 = .ok (.aload_n 2, 1) := by decide +kernel
theorem dL_again_1 : decode cL_again 1 = .ok (.iconst 0, 1) := by decide +kernel
theorem dL_again_2 : decode cL_again 2 = .ok (.aload_n 0, 1) := by decide +kernel
theorem dL_again_3 : decode cL_again 3 = .ok (.iload_n 1, 1) := by decide +kernel
theorem dL_again_4 : decode cL_again 4 = .ok (.invokevirtual 120, 3) := by decide +kernel
theorem dL_again_7 : decode cL_again 7 = .ok (.i2l, 1) := by decide +kernel
theorem dL_again_8 : decode cL_again 8 = .ok (.lastore, 1) := by decide +kernel
theorem dL_again_9 : decode cL_again 9 = .ok (.goto 6, 3) := by decide +kernel
theorem dL_again_12 : decode cL_again 12 = .ok (.astore_n 3, 1) := by decide +kernel
theorem dL_again_13 : decode cL_again 13 = .ok (.iconst 1, 1) := by decide +kernel
theorem dL_again_14 : decode cL_again 14 = .ok (.ireturn, 1) := by decide +kernel
theorem dL_again_15 : decode cL_again 15 = .ok (.iconst 0, 1) := by decide +kernel
theorem dL_again_16 : decode cL_again 16 = .ok (.ireturn, 1) := by decide +kernel
theorem dL_undo_0 : decode cL_undo 0 = .ok (.aload_n 1, 1) := by decide +kernel
theorem dL_undo_1 : decode cL_undo 1 = .ok (.iconst 0, 1) := by decide +kernel
theorem dL_undo_2 : decode cL_undo 2 = .ok (.aload_n 0, 1) := by decide +kernel
theorem dL_undo_3 : decode cL_undo 3 = .ok (.invokevirtual 123, 3) := by decide +kernel
theorem dL_undo_6 : decode cL_undo 6 = .ok (.i2l, 1) := by decide +kernel
theorem dL_undo_7 : decode cL_undo 7 = .ok (.lastore, 1) := by decide +kernel
theorem dL_undo_8 : decode cL_undo 8 = .ok (.goto 6, 3) := by decide +kernel
theorem dL_undo_11 : decode cL_undo 11 = .ok (.astore_n 2, 1) := by decide +kernel
theorem dL_undo_12 : decode cL_undo 12 = .ok (.iconst 1, 1) := by decide +kernel
theorem dL_undo_13 : decode cL_undo 13 = .ok (.ireturn, 1) := by decide +kernel
theorem dL_undo_14 : decode cL_undo 14 = .ok (.iconst 0, 1) := by decide +kernel
theorem dL_undo_15 : decode cL_undo 15 = .ok (.ireturn, 1) := by decide +kernel
theorem dL_printRule_0 : decode cL_printRule 0 = .ok (.aload_n 2, 1) := by decide +kernel
theorem dL_printRule_1 : decode cL_printRule 1 = .ok (.iconst 0, 1) := by decide +kernel
theorem dL_printRule_2 : decode cL_printRule 2 = .ok (.aload_n 0, 1) := by decide +kernel
theorem dL_printRule_3 : decode cL_printRule 3 = .ok (.iload_n 1, 1) := by decide +kernel
theorem dL_printRule_4 : decode cL_printRule 4 = .ok (.invokevirtual 129, 3) := by decide +kernel
theorem dL_printRule_7 : decode cL_printRule 7 = .ok (.i2l, 1) := by decide +kernel
theorem dL_printRule_8 : decode cL_printRule 8 = .ok (.lastore, 1) := by decide +kernel
theorem dL_printRule_9 : decode cL_printRule 9 = .ok (.goto 6, 3) := by decide +kernel
theorem dL_printRule_12 : decode cL_printRule 12 = .ok (.astore_n 3, 1) := by decide +kernel
theorem dL_printRule_13 : decode cL_printRule 13 = .ok (.iconst 1, 1) := by decide +kernel
theorem dL_printRule_14 : decode cL_printRule 14 = .ok (.ireturn, 1) := by decide +kernel
theorem dL_printRule_15 : decode cL_printRule 15 = .ok (.iconst 0, 1) := by decide +kernel
theorem dL_printRule_16 : decode cL_printRule 16 = .ok (.ireturn, 1) := by decide +kernel
theorem dL_keep_0 : decode cL_keep 0 = .ok (.aload_n 2, 1) := by decide +kernel
theorem dL_keep_1 : decode cL_keep 1 = .ok (.iconst 0, 1) := by decide +kernel
theorem dL_keep_2 : decode cL_keep 2 = .ok (.aload_n 0, 1) := by decide +kernel
theorem dL_keep_3 : decode cL_keep 3 = .ok (.iload_n 1, 1) := by decide +kernel
theorem dL_keep_4 : decode cL_keep 4 = .ok (.invokevirtual 132, 3) := by decide +kernel
theorem dL_keep_7 : decode cL_keep 7 = .ok (.i2l, 1) := by decide +kernel
theorem dL_keep_8 : decode cL_keep 8 = .ok (.lastore, 1) := by decide +kernel
theorem dL_keep_9 : decode cL_keep 9 = .ok (.goto 6, 3) := by decide +kernel
theorem dL_keep_12 : decode cL_keep 12 = .ok (.astore_n 3, 1) := by decide +kernel
theorem dL_keep_13 : decode cL_keep 13 = .ok (.iconst 1, 1) := by decide +kernel
theorem dL_keep_14 : decode cL_keep 14 = .ok (.ireturn, 1) := by decide +kernel
theorem dL_keep_15 : decode cL_keep 15 = .ok (.iconst 0, 1) := by decide +kernel
theorem dL_keep_16 : decode cL_keep 16 = .ok (.ireturn, 1) := by decide +kernel
theorem dL_bringBack_0 : decode cL_bringBack 0 = .ok (.aload_n 2, 1) := by decide +kernel
theorem dL_bringBack_1 : decode cL_bringBack 1 = .ok (.iconst 0, 1) := by decide +kernel
theorem dL_bringBack_2 : decode cL_bringBack 2 = .ok (.aload_n 0, 1) := by decide +kernel
theorem dL_bringBack_3 : decode cL_bringBack 3 = .ok (.iload_n 1, 1) := by decide +kernel
theorem dL_bringBack_4 : decode cL_bringBack 4 = .ok (.invokevirtual 135, 3) := by decide +kernel
theorem dL_bringBack_7 : decode cL_bringBack 7 = .ok (.i2l, 1) := by decide +kernel
theorem dL_bringBack_8 : decode cL_bringBack 8 = .ok (.lastore, 1) := by decide +kernel
theorem dL_bringBack_9 : decode cL_bringBack 9 = .ok (.goto 9, 3) := by decide +kernel
theorem dL_bringBack_12 : decode cL_bringBack 12 = .ok (.astore_n 3, 1) := by decide +kernel
theorem dL_bringBack_13 : decode cL_bringBack 13 = .ok (.iconst 1, 1) := by decide +kernel
theorem dL_bringBack_14 : decode cL_bringBack 14 = .ok (.ireturn, 1) := by decide +kernel
theorem dL_bringBack_15 : decode cL_bringBack 15 = .ok (.astore_n 3, 1) := by decide +kernel
theorem dL_bringBack_16 : decode cL_bringBack 16 = .ok (.iconst 2, 1) := by decide +kernel
theorem dL_bringBack_17 : decode cL_bringBack 17 = .ok (.ireturn, 1) := by decide +kernel
theorem dL_bringBack_18 : decode cL_bringBack 18 = .ok (.iconst 0, 1) := by decide +kernel
theorem dL_bringBack_19 : decode cL_bringBack 19 = .ok (.ireturn, 1) := by decide +kernel
