theorem dX11_errorCode_0 : decode cX11_errorCode 0 = .ok (.aload_n 0, 1) := by decide +kernel
theorem dX11_errorCode_1 : decode cX11_errorCode 1 = .ok (.iconst 0, 1) := by decide +kernel
theorem dX11_errorCode_2 : decode cX11_errorCode 2 = .ok (.putfield 67, 3) := by decide +kernel
theorem dX11_errorCode_5 : decode cX11_errorCode 5 = .ok (.aload_n 0, 1) := by decide +kernel
theorem dX11_errorCode_6 : decode cX11_errorCode 6 = .ok (.getfield 383, 3) := by decide +kernel
theorem dX11_errorCode_9 : decode cX11_errorCode 9 = .ok (.ireturn, 1) := by decide +kernel
theorem dX11_errorOffset_0 : decode cX11_errorOffset 0 = .ok (.aload_n 0, 1) := by decide +kernel
theorem dX11_errorOffset_1 : decode cX11_errorOffset 1 = .ok (.iconst 0, 1) := by decide +kernel
theorem dX11_errorOffset_2 : decode cX11_errorOffset 2 = .ok (.putfield 67, 3) := by decide +kernel
theorem dX11_errorOffset_5 : decode cX11_errorOffset 5 = .ok (.aload_n 0, 1) := by decide +kernel
theorem dX11_errorOffset_6 : decode cX11_errorOffset 6 = .ok (.getfield 50, 3) := by decide +kernel
theorem dX11_errorOffset_9 : decode cX11_errorOffset 9 = .ok (.ireturn, 1) := by decide +kernel
theorem dX11_units_0 : decode cX11_units 0 = .ok (.iconst 0, 1) := by decide +kernel
theorem dX11_units_1 : decode cX11_units 1 = .ok (.istore_n 1, 1) := by decide +kernel
theorem dX11_units_2 : decode cX11_units 2 = .ok (.iconst 0, 1) := by decide +kernel
theorem dX11_units_3 : decode cX11_units 3 = .ok (.istore_n 2, 1) := by decide +kernel
theorem dX11_units_4 : decode cX11_units 4 = .ok (.iload_n 2, 1) := by decide +kernel
theorem dX11_units_5 : decode cX11_units 5 = .ok (.aload_n 0, 1) := by decide +kernel
theorem dX11_units_6 : decode cX11_units 6 = .ok (.invokevirtual 179, 3) := by decide +kernel
theorem dX11_units_9 : decode cX11_units 9 = .ok (.if_icmp .ge 23, 3) := by decide +kernel
theorem dX11_units_12 : decode cX11_units 12 = .ok (.iload_n 1, 1) := by decide +kernel
theorem dX11_units_13 : decode cX11_units 13 = .ok (.aload_n 0, 1) := by decide +kernel
theorem dX11_units_14 : decode cX11_units 14 = .ok (.iload_n 2, 1) := by decide +kernel
theorem dX11_units_15 : decode cX11_units 15 = .ok (.invokevirtual 200, 3) := by decide +kernel
theorem dX11_units_18 : decode cX11_units 18 = .ok (.aload_n 0, 1) := by decide +kernel
theorem dX11_units_19 : decode cX11_units 19 = .ok (.iload_n 2, 1) := by decide +kernel
theorem dX11_units_20 : decode cX11_units 20 = .ok (.invokevirtual 203, 3) := by decide +kernel
theorem dX11_units_23 : decode cX11_units 23 = .ok (.iadd, 1) := by decide +kernel
theorem dX11_units_24 : decode cX11_units 24 = .ok (.iadd, 1) := by decide +kernel
theorem dX11_units_25 : decode cX11_units 25 = .ok (.istore_n 1, 1) := by decide +kernel
theorem dX11_units_26 : decode cX11_units 26 = .ok (.iinc 2 1, 3) := by decide +kernel
theorem dX11_units_29 : decode cX11_units 29 = .ok (.goto (-25), 3) := by decide +kernel
theorem dX11_units_32 : decode cX11_units 32 = .ok (.iload_n 1, 1) := by decide +kernel
theorem dX11_units_33 : decode cX11_units 33 = .ok (.ireturn, 1) := by decide +kernel
theorem dX11_count_0 : decode cX11_count 0 = .ok (.aload_n 0, 1) := by decide +kernel
theorem dX11_count_1 : decode cX11_count 1 = .ok (.iconst 0, 1) := by decide +kernel
theorem dX11_count_2 : decode cX11_count 2 = .ok (.putfield 67, 3) := by decide +kernel
theorem dX11_count_5 : decode cX11_count 5 = .ok (.aload_n 0, 1) := by decide +kernel
theorem dX11_count_6 : decode cX11_count 6 = .ok (.invokevirtual 389, 3) := by decide +kernel
theorem dX11_count_9 : decode cX11_count 9 = .ok (.iload_n 1, 1) := by decide +kernel
theorem dX11_count_10 : decode cX11_count 10 = .ok (.tableswitch 156 0 12 #[66, 73, 80, 87, 94, 101, 106, 112, 118, 131, 138, 143, 148], 66) := by decide +kernel
theorem dX11_count_76 : decode cX11_count 76 = .ok (.aload_n 0, 1) := by decide +kernel
theorem dX11_count_77 : decode cX11_count 77 = .ok (.getfield 7, 3) := by decide +kernel
theorem dX11_count_80 : decode cX11_count 80 = .ok (.iconst 0, 1) := by decide +kernel
theorem dX11_count_81 : decode cX11_count 81 = .ok (.iaload, 1) := by decide +kernel
theorem dX11_count_82 : decode cX11_count 82 = .ok (.ireturn, 1) := by decide +kernel
theorem dX11_count_83 : decode cX11_count 83 = .ok (.aload_n 0, 1) := by decide +kernel
theorem dX11_count_84 : decode cX11_count 84 = .ok (.getfield 7, 3) := by decide +kernel
theorem dX11_count_87 : decode cX11_count 87 = .ok (.iconst 1, 1) := by decide +kernel
theorem dX11_count_88 : decode cX11_count 88 = .ok (.iaload, 1) := by decide +kernel
theorem dX11_count_89 : decode cX11_count 89 = .ok (.ireturn, 1) := by decide +kernel
theorem dX11_count_90 : decode cX11_count 90 = .ok (.aload_n 0, 1) := by decide +kernel
theorem dX11_count_91 : decode cX11_count 91 = .ok (.getfield 7, 3) := by decide +kernel
theorem dX11_count_94 : decode cX11_count 94 = .ok (.iconst 2, 1) := by decide +kernel
theorem dX11_count_95 : decode cX11_count 95 = .ok (.iaload, 1) := by decide +kernel
theorem dX11_count_96 : decode cX11_count 96 = .ok (.ireturn, 1) := by decide +kernel
theorem dX11_count_97 : decode cX11_count 97 = .ok (.aload_n 0, 1) := by decide +kernel
theorem dX11_count_98 : decode cX11_count 98 = .ok (.getfield 7, 3) := by decide +kernel
theorem dX11_count_101 : decode cX11_count 101 = .ok (.iconst 3, 1) := by decide +kernel
theorem dX11_count_102 : decode cX11_count 102 = .ok (.iaload, 1) := by decide +kernel
theorem dX11_count_103 : decode cX11_count 103 = .ok (.ireturn, 1) := by decide +kernel
theorem dX11_count_104 : decode cX11_count 104 = .ok (.aload_n 0, 1) := by decide +kernel
theorem dX11_count_105 : decode cX11_count 105 = .ok (.getfield 7, 3) := by decide +kernel
theorem dX11_count_108 : decode cX11_count 108 = .ok (.iconst 4, 1) := by decide +kernel
theorem dX11_count_109 : decode cX11_count 109 = .ok (.iaload, 1) := by decide +kernel
theorem dX11_count_110 : decode cX11_count 110 = .ok (.ireturn, 1) := by decide +kernel
theorem dX11_count_111 : decode cX11_count 111 = .ok (.aload_n 0, 1) := by decide +kernel
theorem dX11_count_112 : decode cX11_count 112 = .ok (.invokevirtual 206, 3) := by decide +kernel
theorem dX11_count_115 : decode cX11_count 115 = .ok (.ireturn, 1) := by decide +kernel
theorem dX11_count_116 : decode cX11_count 116 = .ok (.aload_n 0, 1) := by decide +kernel
theorem dX11_count_117 : decode cX11_count 117 = .ok (.iconst 0, 1) := by decide +kernel
theorem dX11_count_118 : decode cX11_count 118 = .ok (.invokevirtual 392, 3) := by decide +kernel
theorem dX11_count_121 : decode cX11_count 121 = .ok (.ireturn, 1) := by decide +kernel
theorem dX11_count_122 : decode cX11_count 122 = .ok (.aload_n 0, 1) := by decide +kernel
theorem dX11_count_123 : decode cX11_count 123 = .ok (.iconst 1, 1) := by decide +kernel
theorem dX11_count_124 : decode cX11_count 124 = .ok (.invokevirtual 392, 3) := by decide +kernel
theorem dX11_count_127 : decode cX11_count 127 = .ok (.ireturn, 1) := by decide +kernel
theorem dX11_count_128 : decode cX11_count 128 = .ok (.aload_n 0, 1) := by decide +kernel
theorem dX11_count_129 : decode cX11_count 129 = .ok (.invokevirtual 239, 3) := by decide +kernel
theorem dX11_count_132 : decode cX11_count 132 = .ok (.ifCond .eq 7, 3) := by decide +kernel
theorem dX11_count_135 : decode cX11_count 135 = .ok (.iconst 1, 1) := by decide +kernel
theorem dX11_count_136 : decode cX11_count 136 = .ok (.goto 4, 3) := by decide +kernel
theorem dX11_count_139 : decode cX11_count 139 = .ok (.iconst 0, 1) := by decide +kernel
theorem dX11_count_140 : decode cX11_count 140 = .ok (.ireturn, 1) := by decide +kernel
theorem dX11_count_141 : decode cX11_count 141 = .ok (.aload_n 0, 1) := by decide +kernel
theorem dX11_count_142 : decode cX11_count 142 = .ok (.getfield 7, 3) := by decide +kernel
theorem dX11_count_145 : decode cX11_count 145 = .ok (.iconst 5, 1) := by decide +kernel
theorem dX11_count_146 : decode cX11_count 146 = .ok (.iaload, 1) := by decide +kernel
theorem dX11_count_147 : decode cX11_count 147 = .ok (.ireturn, 1) := by decide +kernel
theorem dX11_count_148 : decode cX11_count 148 = .ok (.aload_n 0, 1) := by decide +kernel
theorem dX11_count_149 : decode cX11_count 149 = .ok (.getfield 70, 3) := by decide +kernel
theorem dX11_count_152 : decode cX11_count 152 = .ok (.ireturn, 1) := by decide +kernel
theorem dX11_count_153 : decode cX11_count 153 = .ok (.aload_n 0, 1) := by decide +kernel
theorem dX11_count_154 : decode cX11_count 154 = .ok (.invokevirtual 396, 3) := by decide +kernel
theorem dX11_count_157 : decode cX11_count 157 = .ok (.ireturn, 1) := by decide +kernel
theorem dX11_count_158 : decode cX11_count 158 = .ok (.aload_n 0, 1) := by decide +kernel
theorem dX11_count_159 : decode cX11_count 159 = .ok (.getfield 7, 3) := by decide +kernel
theorem dX11_count_162 : decode cX11_count 162 = .ok (.bipush 6, 2) := by decide +kernel
theorem dX11_count_164 : decode cX11_count 164 = .ok (.iaload, 1) := by decide +kernel
theorem dX11_count_165 : decode cX11_count 165 = .ok (.ireturn, 1) := by decide +kernel
theorem dX11_count_166 : decode cX11_count 166 = .ok (.aload_n 0, 1) := by decide +kernel
theorem dX11_count_167 : decode cX11_count 167 = .ok (.iconst 1, 1) := by decide +kernel
theorem dX11_count_168 : decode cX11_count 168 = .ok (.putfield 67, 3) := by decide +kernel
theorem dX11_count_171 : decode cX11_count 171 = .ok (.iconst 0, 1) := by decide +kernel
theorem dX11_count_172 : decode cX11_count 172 = .ok (.ireturn, 1) := by decide +kernel
theorem dX11_noPlayer_0 : decode cX11_noPlayer 0 = .ok (.aload_n 0, 1) := by decide +kernel
theorem dX11_noPlayer_1 : decode cX11_noPlayer 1 = .ok (.iload_n 1, 1) := by decide +kernel
theorem dX11_noPlayer_2 : decode cX11_noPlayer 2 = .ok (.iconst 0, 1) := by decide +kernel
theorem dX11_noPlayer_3 : decode cX11_noPlayer 3 = .ok (.iconst 1, 1) := by decide +kernel
theorem dX11_noPlayer_4 : decode cX11_noPlayer 4 = .ok (.invokestatic 77, 3) := by decide +kernel
theorem dX11_noPlayer_7 : decode cX11_noPlayer 7 = .ok (.ifCond .ne 7, 3) := by decide +kernel
theorem dX11_noPlayer_10 : decode cX11_noPlayer 10 = .ok (.iconst 1, 1) := by decide +kernel
theorem dX11_noPlayer_11 : decode cX11_noPlayer 11 = .ok (.goto 4, 3) := by decide +kernel
theorem dX11_noPlayer_14 : decode cX11_noPlayer 14 = .ok (.iconst 0, 1) := by decide +kernel
theorem dX11_noPlayer_15 : decode cX11_noPlayer 15 = .ok (.iconst 1, 1) := by decide +kernel
theorem dX11_noPlayer_16 : decode cX11_noPlayer 16 = .ok (.invokevirtual 81, 3) := by decide +kernel
theorem dX11_noPlayer_19 : decode cX11_noPlayer 19 = .ok (.ireturn, 1) := by decide +kernel
theorem dX11_account_0 : decode cX11_account 0 = .ok (.aload_n 0, 1) := by decide +kernel
theorem dX11_account_1 : decode cX11_account 1 = .ok (.iconst 0, 1) := by decide +kernel
theorem dX11_account_2 : decode cX11_account 2 = .ok (.putfield 67, 3) := by decide +kernel
theorem dX11_account_5 : decode cX11_account 5 = .ok (.aload_n 0, 1) := by decide +kernel
theorem dX11_account_6 : decode cX11_account 6 = .ok (.iload_n 1, 1) := by decide +kernel
theorem dX11_account_7 : decode cX11_account 7 = .ok (.invokevirtual 399, 3) := by decide +kernel
theorem dX11_account_10 : decode cX11_account 10 = .ok (.ifCond .ne 25, 3) := by decide +kernel
theorem dX11_account_13 : decode cX11_account 13 = .ok (.aload_n 0, 1) := by decide +kernel
theorem dX11_account_14 : decode cX11_account 14 = .ok (.iload_n 2, 1) := by decide +kernel
theorem dX11_account_15 : decode cX11_account 15 = .ok (.iconst 0, 1) := by decide +kernel
theorem dX11_account_16 : decode cX11_account 16 = .ok (.iconst 4, 1) := by decide +kernel
theorem dX11_account_17 : decode cX11_account 17 = .ok (.invokestatic 77, 3) := by decide +kernel
theorem dX11_account_20 : decode cX11_account 20 = .ok (.ifCond .ne 7, 3) := by decide +kernel
theorem dX11_account_23 : decode cX11_account 23 = .ok (.iconst 1, 1) := by decide +kernel
theorem dX11_account_24 : decode cX11_account 24 = .ok (.goto 4, 3) := by decide +kernel
theorem dX11_account_27 : decode cX11_account 27 = .ok (.iconst 0, 1) := by decide +kernel
theorem dX11_account_28 : decode cX11_account 28 = .ok (.iconst 2, 1) := by decide +kernel
theorem dX11_account_29 : decode cX11_account 29 = .ok (.invokevirtual 81, 3) := by decide +kernel
theorem dX11_account_32 : decode cX11_account 32 = .ok (.ifCond .eq 7, 3) := by decide +kernel
theorem dX11_account_35 : decode cX11_account 35 = .ok (.iconst 0, 1) := by decide +kernel
theorem dX11_account_36 : decode cX11_account 36 = .ok (.goto 16, 3) := by decide +kernel
theorem dX11_account_39 : decode cX11_account 39 = .ok (.aload_n 0, 1) := by decide +kernel
theorem dX11_account_40 : decode cX11_account 40 = .ok (.getfield 7, 3) := by decide +kernel
theorem dX11_account_43 : decode cX11_account 43 = .ok (.bipush 7, 2) := by decide +kernel
theorem dX11_account_45 : decode cX11_account 45 = .ok (.iconst 5, 1) := by decide +kernel
theorem dX11_account_46 : decode cX11_account 46 = .ok (.iload_n 1, 1) := by decide +kernel
theorem dX11_account_47 : decode cX11_account 47 = .ok (.imul, 1) := by decide +kernel
theorem dX11_account_48 : decode cX11_account 48 = .ok (.iadd, 1) := by decide +kernel
theorem dX11_account_49 : decode cX11_account 49 = .ok (.iload_n 2, 1) := by decide +kernel
theorem dX11_account_50 : decode cX11_account 50 = .ok (.iadd, 1) := by decide +kernel
theorem dX11_account_51 : decode cX11_account 51 = .ok (.iaload, 1) := by decide +kernel
theorem dX11_account_52 : decode cX11_account 52 = .ok (.ireturn, 1) := by decide +kernel
theorem dX11_turn_0 : decode cX11_turn 0 = .ok (.aload_n 0, 1) := by decide +kernel
theorem dX11_turn_1 : decode cX11_turn 1 = .ok (.iconst 0, 1) := by decide +kernel
theorem dX11_turn_2 : decode cX11_turn 2 = .ok (.putfield 67, 3) := by decide +kernel
theorem dX11_turn_5 : decode cX11_turn 5 = .ok (.aload_n 0, 1) := by decide +kernel
theorem dX11_turn_6 : decode cX11_turn 6 = .ok (.iload_n 1, 1) := by decide +kernel
theorem dX11_turn_7 : decode cX11_turn 7 = .ok (.iconst 0, 1) := by decide +kernel
theorem dX11_turn_8 : decode cX11_turn 8 = .ok (.aload_n 0, 1) := by decide +kernel
theorem dX11_turn_9 : decode cX11_turn 9 = .ok (.getfield 7, 3) := by decide +kernel
theorem dX11_turn_12 : decode cX11_turn 12 = .ok (.bipush 6, 2) := by decide +kernel
theorem dX11_turn_14 : decode cX11_turn 14 = .ok (.iaload, 1) := by decide +kernel
theorem dX11_turn_15 : decode cX11_turn 15 = .ok (.iconst 1, 1) := by decide +kernel
theorem dX11_turn_16 : decode cX11_turn 16 = .ok (.isub, 1) := by decide +kernel
theorem dX11_turn_17 : decode cX11_turn 17 = .ok (.invokestatic 77, 3) := by decide +kernel
theorem dX11_turn_20 : decode cX11_turn 20 = .ok (.ifCond .ne 7, 3) := by decide +kernel
theorem dX11_turn_23 : decode cX11_turn 23 = .ok (.iconst 1, 1) := by decide +kernel
theorem dX11_turn_24 : decode cX11_turn 24 = .ok (.goto 4, 3) := by decide +kernel
theorem dX11_turn_27 : decode cX11_turn 27 = .ok (.iconst 0, 1) := by decide +kernel
theorem dX11_turn_28 : decode cX11_turn 28 = .ok (.iconst 1, 1) := by decide +kernel
theorem dX11_turn_29 : decode cX11_turn 29 = .ok (.invokevirtual 81, 3) := by decide +kernel
theorem dX11_turn_32 : decode cX11_turn 32 = .ok (.ifCond .ne 25, 3) := by decide +kernel
theorem dX11_turn_35 : decode cX11_turn 35 = .ok (.aload_n 0, 1) := by decide +kernel
theorem dX11_turn_36 : decode cX11_turn 36 = .ok (.iload_n 2, 1) := by decide +kernel
theorem dX11_turn_37 : decode cX11_turn 37 = .ok (.iconst 0, 1) := by decide +kernel
theorem dX11_turn_38 : decode cX11_turn 38 = .ok (.iconst 4, 1) := by decide +kernel
theorem dX11_turn_39 : decode cX11_turn 39 = .ok (.invokestatic 77, 3) := by decide +kernel
theorem dX11_turn_42 : decode cX11_turn 42 = .ok (.ifCond .ne 7, 3) := by decide +kernel
theorem dX11_turn_45 : decode cX11_turn 45 = .ok (.iconst 1, 1) := by decide +kernel
theorem dX11_turn_46 : decode cX11_turn 46 = .ok (.goto 4, 3) := by decide +kernel
theorem dX11_turn_49 : decode cX11_turn 49 = .ok (.iconst 0, 1) := by decide +kernel
theorem dX11_turn_50 : decode cX11_turn 50 = .ok (.iconst 2, 1) := by decide +kernel
theorem dX11_turn_51 : decode cX11_turn 51 = .ok (.invokevirtual 81, 3) := by decide +kernel
theorem dX11_turn_54 : decode cX11_turn 54 = .ok (.ifCond .eq 5, 3) := by decide +kernel
theorem dX11_turn_57 : decode cX11_turn 57 = .ok (.iconst 0, 1) := by decide +kernel
theorem dX11_turn_58 : decode cX11_turn 58 = .ok (.ireturn, 1) := by decide +kernel
theorem dX11_turn_59 : decode cX11_turn 59 = .ok (.aload_n 0, 1) := by decide +kernel
theorem dX11_turn_60 : decode cX11_turn 60 = .ok (.getfield 7, 3) := by decide +kernel
theorem dX11_turn_63 : decode cX11_turn 63 = .ok (.sipush 165, 3) := by decide +kernel
theorem dX11_turn_66 : decode cX11_turn 66 = .ok (.iconst 5, 1) := by decide +kernel
theorem dX11_turn_67 : decode cX11_turn 67 = .ok (.aload_n 0, 1) := by decide +kernel
theorem dX11_turn_68 : decode cX11_turn 68 = .ok (.getfield 7, 3) := by decide +kernel
theorem dX11_turn_71 : decode cX11_turn 71 = .ok (.bipush 6, 2) := by decide +kernel
theorem dX11_turn_73 : decode cX11_turn 73 = .ok (.iaload, 1) := by decide +kernel
theorem dX11_turn_74 : decode cX11_turn 74 = .ok (.iconst 1, 1) := by decide +kernel
theorem dX11_turn_75 : decode cX11_turn 75 = .ok (.isub, 1) := by decide +kernel
theorem dX11_turn_76 : decode cX11_turn 76 = .ok (.iload_n 1, 1) := by decide +kernel
theorem dX11_turn_77 : decode cX11_turn 77 = .ok (.isub, 1) := by decide +kernel
theorem dX11_turn_78 : decode cX11_turn 78 = .ok (.imul, 1) := by decide +kernel
theorem dX11_turn_79 : decode cX11_turn 79 = .ok (.iadd, 1) := by decide +kernel
theorem dX11_turn_80 : decode cX11_turn 80 = .ok (.iload_n 2, 1) := by decide +kernel
theorem dX11_turn_81 : decode cX11_turn 81 = .ok (.iadd, 1) := by decide +kernel
theorem dX11_turn_82 : decode cX11_turn 82 = .ok (.iaload, 1) := by decide +kernel
theorem dX11_turn_83 : decode cX11_turn 83 = .ok (.ireturn, 1) := by decide +kernel
theorem dX11_greatestIn_0 : decode cX11_greatestIn 0 = .ok (.iconst 0, 1) := by decide +kernel
theorem dX11_greatestIn_1 : decode cX11_greatestIn 1 = .ok (.istore_n 3, 1) := by decide +kernel
theorem dX11_greatestIn_2 : decode cX11_greatestIn 2 = .ok (.iconst 0, 1) := by decide +kernel
theorem dX11_greatestIn_3 : decode cX11_greatestIn 3 = .ok (.istore 4, 2) := by decide +kernel
theorem dX11_greatestIn_5 : decode cX11_greatestIn 5 = .ok (.iload 4, 2) := by decide +kernel
theorem dX11_greatestIn_7 : decode cX11_greatestIn 7 = .ok (.sipush 1681, 3) := by decide +kernel
theorem dX11_greatestIn_10 : decode cX11_greatestIn 10 = .ok (.if_icmp .ge 24, 3) := by decide +kernel
theorem dX11_greatestIn_13 : decode cX11_greatestIn 13 = .ok (.iload_n 3, 1) := by decide +kernel
theorem dX11_greatestIn_14 : decode cX11_greatestIn 14 = .ok (.aload_n 1, 1) := by decide +kernel
theorem dX11_greatestIn_15 : decode cX11_greatestIn 15 = .ok (.sipush 1681, 3) := by decide +kernel
theorem dX11_greatestIn_18 : decode cX11_greatestIn 18 = .ok (.iload_n 2, 1) := by decide +kernel
theorem dX11_greatestIn_19 : decode cX11_greatestIn 19 = .ok (.imul, 1) := by decide +kernel
theorem dX11_greatestIn_20 : decode cX11_greatestIn 20 = .ok (.iload 4, 2) := by decide +kernel
theorem dX11_greatestIn_22 : decode cX11_greatestIn 22 = .ok (.iadd, 1) := by decide +kernel
theorem dX11_greatestIn_23 : decode cX11_greatestIn 23 = .ok (.iaload, 1) := by decide +kernel
theorem dX11_greatestIn_24 : decode cX11_greatestIn 24 = .ok (.invokestatic 89, 3) := by decide +kernel
theorem dX11_greatestIn_27 : decode cX11_greatestIn 27 = .ok (.istore_n 3, 1) := by decide +kernel
theorem dX11_greatestIn_28 : decode cX11_greatestIn 28 = .ok (.iinc 4 1, 3) := by decide +kernel
theorem dX11_greatestIn_31 : decode cX11_greatestIn 31 = .ok (.goto (-26), 3) := by decide +kernel
theorem dX11_greatestIn_34 : decode cX11_greatestIn 34 = .ok (.iload_n 3, 1) := by decide +kernel
theorem dX11_greatestIn_35 : decode cX11_greatestIn 35 = .ok (.ireturn, 1) := by decide +kernel
theorem dX11_losingOf_0 : decode cX11_losingOf 0 = .ok (.iconst 0, 1) := by decide +kernel
theorem dX11_losingOf_1 : decode cX11_losingOf 1 = .ok (.istore_n 2, 1) := by decide +kernel
theorem dX11_losingOf_2 : decode cX11_losingOf 2 = .ok (.iconst 0, 1) := by decide +kernel
theorem dX11_losingOf_3 : decode cX11_losingOf 3 = .ok (.istore_n 3, 1) := by decide +kernel
theorem dX11_losingOf_4 : decode cX11_losingOf 4 = .ok (.iload_n 3, 1) := by decide +kernel
theorem dX11_losingOf_5 : decode cX11_losingOf 5 = .ok (.sipush 1681, 3) := by decide +kernel
theorem dX11_losingOf_8 : decode cX11_losingOf 8 = .ok (.if_icmp .ge 32, 3) := by decide +kernel
theorem dX11_losingOf_11 : decode cX11_losingOf 11 = .ok (.iload_n 2, 1) := by decide +kernel
theorem dX11_losingOf_12 : decode cX11_losingOf 12 = .ok (.aload_n 0, 1) := by decide +kernel
theorem dX11_losingOf_13 : decode cX11_losingOf 13 = .ok (.getfield 38, 3) := by decide +kernel
theorem dX11_losingOf_16 : decode cX11_losingOf 16 = .ok (.sipush 1681, 3) := by decide +kernel
theorem dX11_losingOf_19 : decode cX11_losingOf 19 = .ok (.iload_n 1, 1) := by decide +kernel
theorem dX11_losingOf_20 : decode cX11_losingOf 20 = .ok (.imul, 1) := by decide +kernel
theorem dX11_losingOf_21 : decode cX11_losingOf 21 = .ok (.iload_n 3, 1) := by decide +kernel
theorem dX11_losingOf_22 : decode cX11_losingOf 22 = .ok (.iadd, 1) := by decide +kernel
theorem dX11_losingOf_23 : decode cX11_losingOf 23 = .ok (.iaload, 1) := by decide +kernel
theorem dX11_losingOf_24 : decode cX11_losingOf 24 = .ok (.ifCond .ne 7, 3) := by decide +kernel
theorem dX11_losingOf_27 : decode cX11_losingOf 27 = .ok (.iconst 1, 1) := by decide +kernel
theorem dX11_losingOf_28 : decode cX11_losingOf 28 = .ok (.goto 4, 3) := by decide +kernel
theorem dX11_losingOf_31 : decode cX11_losingOf 31 = .ok (.iconst 0, 1) := by decide +kernel
theorem dX11_losingOf_32 : decode cX11_losingOf 32 = .ok (.iadd, 1) := by decide +kernel
theorem dX11_losingOf_33 : decode cX11_losingOf 33 = .ok (.istore_n 2, 1) := by decide +kernel
theorem dX11_losingOf_34 : decode cX11_losingOf 34 = .ok (.iinc 3 1, 3) := by decide +kernel
theorem dX11_losingOf_37 : decode cX11_losingOf 37 = .ok (.goto (-33), 3) := by decide +kernel
theorem dX11_losingOf_40 : decode cX11_losingOf 40 = .ok (.iload_n 2, 1) := by decide +kernel
theorem dX11_losingOf_41 : decode cX11_losingOf 41 = .ok (.ireturn, 1) := by decide +kernel
theorem dX11_boardsOf_0 : decode cX11_boardsOf 0 = .ok (.iconst 0, 1) := by decide +kernel
theorem dX11_boardsOf_1 : decode cX11_boardsOf 1 = .ok (.istore_n 2, 1) := by decide +kernel
theorem dX11_boardsOf_2 : decode cX11_boardsOf 2 = .ok (.iconst 0, 1) := by decide +kernel
theorem dX11_boardsOf_3 : decode cX11_boardsOf 3 = .ok (.istore_n 3, 1) := by decide +kernel
theorem dX11_boardsOf_4 : decode cX11_boardsOf 4 = .ok (.iload_n 3, 1) := by decide +kernel
theorem dX11_boardsOf_5 : decode cX11_boardsOf 5 = .ok (.aload_n 0, 1) := by decide +kernel
theorem dX11_boardsOf_6 : decode cX11_boardsOf 6 = .ok (.getfield 7, 3) := by decide +kernel
theorem dX11_boardsOf_9 : decode cX11_boardsOf 9 = .ok (.iconst 1, 1) := by decide +kernel
theorem dX11_boardsOf_10 : decode cX11_boardsOf 10 = .ok (.iaload, 1) := by decide +kernel
theorem dX11_boardsOf_11 : decode cX11_boardsOf 11 = .ok (.if_icmp .ge 27, 3) := by decide +kernel
theorem dX11_boardsOf_14 : decode cX11_boardsOf 14 = .ok (.iload_n 2, 1) := by decide +kernel
theorem dX11_boardsOf_15 : decode cX11_boardsOf 15 = .ok (.aload_n 0, 1) := by decide +kernel
theorem dX11_boardsOf_16 : decode cX11_boardsOf 16 = .ok (.iload_n 3, 1) := by decide +kernel
theorem dX11_boardsOf_17 : decode cX11_boardsOf 17 = .ok (.iconst 0, 1) := by decide +kernel
theorem dX11_boardsOf_18 : decode cX11_boardsOf 18 = .ok (.invokevirtual 185, 3) := by decide +kernel
theorem dX11_boardsOf_21 : decode cX11_boardsOf 21 = .ok (.iload_n 1, 1) := by decide +kernel
theorem dX11_boardsOf_22 : decode cX11_boardsOf 22 = .ok (.if_icmp .ne 7, 3) := by decide +kernel
theorem dX11_boardsOf_25 : decode cX11_boardsOf 25 = .ok (.iconst 1, 1) := by decide +kernel
theorem dX11_boardsOf_26 : decode cX11_boardsOf 26 = .ok (.goto 4, 3) := by decide +kernel
theorem dX11_boardsOf_29 : decode cX11_boardsOf 29 = .ok (.iconst 0, 1) := by decide +kernel
theorem dX11_boardsOf_30 : decode cX11_boardsOf 30 = .ok (.iadd, 1) := by decide +kernel
theorem dX11_boardsOf_31 : decode cX11_boardsOf 31 = .ok (.istore_n 2, 1) := by decide +kernel
theorem dX11_boardsOf_32 : decode cX11_boardsOf 32 = .ok (.iinc 3 1, 3) := by decide +kernel
theorem dX11_boardsOf_35 : decode cX11_boardsOf 35 = .ok (.goto (-31), 3) := by decide +kernel
theorem dX11_boardsOf_38 : decode cX11_boardsOf 38 = .ok (.iload_n 2, 1) := by decide +kernel
theorem dX11_boardsOf_39 : decode cX11_boardsOf 39 = .ok (.ireturn, 1) := by decide +kernel
theorem dX11_rule_0 : decode cX11_rule 0 = .ok (.aload_n 0, 1) := by decide +kernel
theorem dX11_rule_1 : decode cX11_rule 1 = .ok (.iconst 0, 1) := by decide +kernel
theorem dX11_rule_2 : decode cX11_rule 2 = .ok (.putfield 67, 3) := by decide +kernel
theorem dX11_rule_5 : decode cX11_rule 5 = .ok (.aload_n 0, 1) := by decide +kernel
theorem dX11_rule_6 : decode cX11_rule 6 = .ok (.iload_n 1, 1) := by decide +kernel
theorem dX11_rule_7 : decode cX11_rule 7 = .ok (.invokevirtual 402, 3) := by decide +kernel
theorem dX11_rule_10 : decode cX11_rule 10 = .ok (.ifCond .ne 26, 3) := by decide +kernel
theorem dX11_rule_13 : decode cX11_rule 13 = .ok (.aload_n 0, 1) := by decide +kernel
theorem dX11_rule_14 : decode cX11_rule 14 = .ok (.iload_n 2, 1) := by decide +kernel
theorem dX11_rule_15 : decode cX11_rule 15 = .ok (.iconst 0, 1) := by decide +kernel
theorem dX11_rule_16 : decode cX11_rule 16 = .ok (.bipush 8, 2) := by decide +kernel
theorem dX11_rule_18 : decode cX11_rule 18 = .ok (.invokestatic 77, 3) := by decide +kernel
theorem dX11_rule_21 : decode cX11_rule 21 = .ok (.ifCond .ne 7, 3) := by decide +kernel
theorem dX11_rule_24 : decode cX11_rule 24 = .ok (.iconst 1, 1) := by decide +kernel
theorem dX11_rule_25 : decode cX11_rule 25 = .ok (.goto 4, 3) := by decide +kernel
theorem dX11_rule_28 : decode cX11_rule 28 = .ok (.iconst 0, 1) := by decide +kernel
theorem dX11_rule_29 : decode cX11_rule 29 = .ok (.iconst 2, 1) := by decide +kernel
theorem dX11_rule_30 : decode cX11_rule 30 = .ok (.invokevirtual 81, 3) := by decide +kernel
theorem dX11_rule_33 : decode cX11_rule 33 = .ok (.ifCond .eq 5, 3) := by decide +kernel
theorem dX11_rule_36 : decode cX11_rule 36 = .ok (.iconst 0, 1) := by decide +kernel
theorem dX11_rule_37 : decode cX11_rule 37 = .ok (.ireturn, 1) := by decide +kernel
theorem dX11_rule_38 : decode cX11_rule 38 = .ok (.aload_n 0, 1) := by decide +kernel
theorem dX11_rule_39 : decode cX11_rule 39 = .ok (.iload_n 1, 1) := by decide +kernel
theorem dX11_rule_40 : decode cX11_rule 40 = .ok (.invokevirtual 143, 3) := by decide +kernel
theorem dX11_rule_43 : decode cX11_rule 43 = .ok (.iload_n 2, 1) := by decide +kernel
theorem dX11_rule_44 : decode cX11_rule 44 = .ok (.tableswitch 116 0 7 #[48, 56, 64, 72, 80, 94, 104, 110], 48) := by decide +kernel
theorem dX11_rule_92 : decode cX11_rule 92 = .ok (.aload_n 0, 1) := by decide +kernel
theorem dX11_rule_93 : decode cX11_rule 93 = .ok (.iload_n 1, 1) := by decide +kernel
theorem dX11_rule_94 : decode cX11_rule 94 = .ok (.bipush 18, 2) := by decide +kernel
theorem dX11_rule_96 : decode cX11_rule 96 = .ok (.invokevirtual 85, 3) := by decide +kernel
theorem dX11_rule_99 : decode cX11_rule 99 = .ok (.ireturn, 1) := by decide +kernel
theorem dX11_rule_100 : decode cX11_rule 100 = .ok (.aload_n 0, 1) := by decide +kernel
theorem dX11_rule_101 : decode cX11_rule 101 = .ok (.iload_n 1, 1) := by decide +kernel
theorem dX11_rule_102 : decode cX11_rule 102 = .ok (.bipush 19, 2) := by decide +kernel
theorem dX11_rule_104 : decode cX11_rule 104 = .ok (.invokevirtual 85, 3) := by decide +kernel
theorem dX11_rule_107 : decode cX11_rule 107 = .ok (.ireturn, 1) := by decide +kernel
theorem dX11_rule_108 : decode cX11_rule 108 = .ok (.aload_n 0, 1) := by decide +kernel
theorem dX11_rule_109 : decode cX11_rule 109 = .ok (.iload_n 1, 1) := by decide +kernel
theorem dX11_rule_110 : decode cX11_rule 110 = .ok (.bipush 9, 2) := by decide +kernel
theorem dX11_rule_112 : decode cX11_rule 112 = .ok (.invokevirtual 85, 3) := by decide +kernel
theorem dX11_rule_115 : decode cX11_rule 115 = .ok (.ireturn, 1) := by decide +kernel
theorem dX11_rule_116 : decode cX11_rule 116 = .ok (.aload_n 0, 1) := by decide +kernel
theorem dX11_rule_117 : decode cX11_rule 117 = .ok (.iload_n 1, 1) := by decide +kernel
theorem dX11_rule_118 : decode cX11_rule 118 = .ok (.bipush 20, 2) := by decide +kernel
theorem dX11_rule_120 : decode cX11_rule 120 = .ok (.invokevirtual 85, 3) := by decide +kernel
theorem dX11_rule_123 : decode cX11_rule 123 = .ok (.ireturn, 1) := by decide +kernel
theorem dX11_rule_124 : decode cX11_rule 124 = .ok (.aload_n 0, 1) := by decide +kernel
theorem dX11_rule_125 : decode cX11_rule 125 = .ok (.iload_n 1, 1) := by decide +kernel
theorem dX11_rule_126 : decode cX11_rule 126 = .ok (.invokevirtual 405, 3) := by decide +kernel
theorem dX11_rule_129 : decode cX11_rule 129 = .ok (.ifCond .eq 7, 3) := by decide +kernel
theorem dX11_rule_132 : decode cX11_rule 132 = .ok (.iconst 1, 1) := by decide +kernel
theorem dX11_rule_133 : decode cX11_rule 133 = .ok (.goto 4, 3) := by decide +kernel
theorem dX11_rule_136 : decode cX11_rule 136 = .ok (.iconst 0, 1) := by decide +kernel
theorem dX11_rule_137 : decode cX11_rule 137 = .ok (.ireturn, 1) := by decide +kernel
theorem dX11_rule_138 : decode cX11_rule 138 = .ok (.aload_n 0, 1) := by decide +kernel
theorem dX11_rule_139 : decode cX11_rule 139 = .ok (.aload_n 0, 1) := by decide +kernel
theorem dX11_rule_140 : decode cX11_rule 140 = .ok (.getfield 38, 3) := by decide +kernel
theorem dX11_rule_143 : decode cX11_rule 143 = .ok (.iload_n 1, 1) := by decide +kernel
theorem dX11_rule_144 : decode cX11_rule 144 = .ok (.invokevirtual 408, 3) := by decide +kernel
theorem dX11_rule_147 : decode cX11_rule 147 = .ok (.ireturn, 1) := by decide +kernel
theorem dX11_rule_148 : decode cX11_rule 148 = .ok (.aload_n 0, 1) := by decide +kernel
theorem dX11_rule_149 : decode cX11_rule 149 = .ok (.iload_n 1, 1) := by decide +kernel
theorem dX11_rule_150 : decode cX11_rule 150 = .ok (.invokevirtual 412, 3) := by decide +kernel
theorem dX11_rule_153 : decode cX11_rule 153 = .ok (.ireturn, 1) := by decide +kernel
theorem dX11_rule_154 : decode cX11_rule 154 = .ok (.aload_n 0, 1) := by decide +kernel
theorem dX11_rule_155 : decode cX11_rule 155 = .ok (.iload_n 1, 1) := by decide +kernel
theorem dX11_rule_156 : decode cX11_rule 156 = .ok (.invokevirtual 415, 3) := by decide +kernel
theorem dX11_rule_159 : decode cX11_rule 159 = .ok (.ireturn, 1) := by decide +kernel
theorem dX11_rule_160 : decode cX11_rule 160 = .ok (.aload_n 0, 1) := by decide +kernel
theorem dX11_rule_161 : decode cX11_rule 161 = .ok (.aload_n 0, 1) := by decide +kernel
theorem dX11_rule_162 : decode cX11_rule 162 = .ok (.getfield 41, 3) := by decide +kernel
theorem dX11_rule_165 : decode cX11_rule 165 = .ok (.iload_n 1, 1) := by decide +kernel
theorem dX11_rule_166 : decode cX11_rule 166 = .ok (.invokevirtual 408, 3) := by decide +kernel
theorem dX11_rule_169 : decode cX11_rule 169 = .ok (.ireturn, 1) := by decide +kernel
theorem dX11_only_0 : decode cX11_only 0 = .ok (.aload_n 0, 1) := by decide +kernel
theorem dX11_only_1 : decode cX11_only 1 = .ok (.iconst 0, 1) := by decide +kernel
theorem dX11_only_2 : decode cX11_only 2 = .ok (.putfield 67, 3) := by decide +kernel
theorem dX11_only_5 : decode cX11_only 5 = .ok (.aload_n 0, 1) := by decide +kernel
theorem dX11_only_6 : decode cX11_only 6 = .ok (.iload_n 1, 1) := by decide +kernel
theorem dX11_only_7 : decode cX11_only 7 = .ok (.invokevirtual 402, 3) := by decide +kernel
theorem dX11_only_10 : decode cX11_only 10 = .ok (.ifCond .eq 5, 3) := by decide +kernel
theorem dX11_only_13 : decode cX11_only 13 = .ok (.iconst 0, 1) := by decide +kernel
theorem dX11_only_14 : decode cX11_only 14 = .ok (.ireturn, 1) := by decide +kernel
theorem dX11_only_15 : decode cX11_only 15 = .ok (.iload_n 2, 1) := by decide +kernel
theorem dX11_only_16 : decode cX11_only 16 = .ok (.iconst 0, 1) := by decide +kernel
theorem dX11_only_17 : decode cX11_only 17 = .ok (.aload_n 0, 1) := by decide +kernel
theorem dX11_only_18 : decode cX11_only 18 = .ok (.iload_n 1, 1) := by decide +kernel
theorem dX11_only_19 : decode cX11_only 19 = .ok (.bipush 9, 2) := by decide +kernel
theorem dX11_only_21 : decode cX11_only 21 = .ok (.invokevirtual 85, 3) := by decide +kernel
theorem dX11_only_24 : decode cX11_only 24 = .ok (.iconst 1, 1) := by decide +kernel
theorem dX11_only_25 : decode cX11_only 25 = .ok (.isub, 1) := by decide +kernel
theorem dX11_only_26 : decode cX11_only 26 = .ok (.invokestatic 77, 3) := by decide +kernel
theorem dX11_only_29 : decode cX11_only 29 = .ok (.ifCond .eq 15, 3) := by decide +kernel
theorem dX11_only_32 : decode cX11_only 32 = .ok (.aload_n 0, 1) := by decide +kernel
theorem dX11_only_33 : decode cX11_only 33 = .ok (.iload_n 1, 1) := by decide +kernel
theorem dX11_only_34 : decode cX11_only 34 = .ok (.bipush 10, 2) := by decide +kernel
theorem dX11_only_36 : decode cX11_only 36 = .ok (.iload_n 2, 1) := by decide +kernel
theorem dX11_only_37 : decode cX11_only 37 = .ok (.iadd, 1) := by decide +kernel
theorem dX11_only_38 : decode cX11_only 38 = .ok (.invokevirtual 85, 3) := by decide +kernel
theorem dX11_only_41 : decode cX11_only 41 = .ok (.goto 4, 3) := by decide +kernel
theorem dX11_only_44 : decode cX11_only 44 = .ok (.iconst (-1), 1) := by decide +kernel
theorem dX11_only_45 : decode cX11_only 45 = .ok (.ireturn, 1) := by decide +kernel
theorem dX11_barred_0 : decode cX11_barred 0 = .ok (.aload_n 0, 1) := by decide +kernel
theorem dX11_barred_1 : decode cX11_barred 1 = .ok (.iconst 0, 1) := by decide +kernel
theorem dX11_barred_2 : decode cX11_barred 2 = .ok (.putfield 67, 3) := by decide +kernel
theorem dX11_barred_5 : decode cX11_barred 5 = .ok (.aload_n 0, 1) := by decide +kernel
theorem dX11_barred_6 : decode cX11_barred 6 = .ok (.iload_n 1, 1) := by decide +kernel
theorem dX11_barred_7 : decode cX11_barred 7 = .ok (.invokevirtual 402, 3) := by decide +kernel
theorem dX11_barred_10 : decode cX11_barred 10 = .ok (.ifCond .eq 5, 3) := by decide +kernel
theorem dX11_barred_13 : decode cX11_barred 13 = .ok (.iconst 0, 1) := by decide +kernel
theorem dX11_barred_14 : decode cX11_barred 14 = .ok (.ireturn, 1) := by decide +kernel
theorem dX11_barred_15 : decode cX11_barred 15 = .ok (.iload_n 2, 1) := by decide +kernel
theorem dX11_barred_16 : decode cX11_barred 16 = .ok (.iconst 0, 1) := by decide +kernel
theorem dX11_barred_17 : decode cX11_barred 17 = .ok (.aload_n 0, 1) := by decide +kernel
theorem dX11_barred_18 : decode cX11_barred 18 = .ok (.iload_n 1, 1) := by decide +kernel
theorem dX11_barred_19 : decode cX11_barred 19 = .ok (.bipush 20, 2) := by decide +kernel
theorem dX11_barred_21 : decode cX11_barred 21 = .ok (.invokevirtual 85, 3) := by decide +kernel
theorem dX11_barred_24 : decode cX11_barred 24 = .ok (.iconst 1, 1) := by decide +kernel
theorem dX11_barred_25 : decode cX11_barred 25 = .ok (.isub, 1) := by decide +kernel
theorem dX11_barred_26 : decode cX11_barred 26 = .ok (.invokestatic 77, 3) := by decide +kernel
theorem dX11_barred_29 : decode cX11_barred 29 = .ok (.ifCond .eq 27, 3) := by decide +kernel
theorem dX11_barred_32 : decode cX11_barred 32 = .ok (.aload_n 0, 1) := by decide +kernel
theorem dX11_barred_33 : decode cX11_barred 33 = .ok (.iload_n 1, 1) := by decide +kernel
theorem dX11_barred_34 : decode cX11_barred 34 = .ok (.bipush 21, 2) := by decide +kernel
theorem dX11_barred_36 : decode cX11_barred 36 = .ok (.iconst 2, 1) := by decide +kernel
theorem dX11_barred_37 : decode cX11_barred 37 = .ok (.iload_n 2, 1) := by decide +kernel
theorem dX11_barred_38 : decode cX11_barred 38 = .ok (.imul, 1) := by decide +kernel
theorem dX11_barred_39 : decode cX11_barred 39 = .ok (.iadd, 1) := by decide +kernel
theorem dX11_barred_40 : decode cX11_barred 40 = .ok (.iload_n 3, 1) := by decide +kernel
theorem dX11_barred_41 : decode cX11_barred 41 = .ok (.ifCond .eq 7, 3) := by decide +kernel
theorem dX11_barred_44 : decode cX11_barred 44 = .ok (.iconst 1, 1) := by decide +kernel
theorem dX11_barred_45 : decode cX11_barred 45 = .ok (.goto 4, 3) := by decide +kernel
theorem dX11_barred_48 : decode cX11_barred 48 = .ok (.iconst 0, 1) := by decide +kernel
theorem dX11_barred_49 : decode cX11_barred 49 = .ok (.iadd, 1) := by decide +kernel
theorem dX11_barred_50 : decode cX11_barred 50 = .ok (.invokevirtual 85, 3) := by decide +kernel
theorem dX11_barred_53 : decode cX11_barred 53 = .ok (.goto 4, 3) := by decide +kernel
theorem dX11_barred_56 : decode cX11_barred 56 = .ok (.iconst (-1), 1) := by decide +kernel
theorem dX11_barred_57 : decode cX11_barred 57 = .ok (.ireturn, 1) := by decide +kernel
theorem dX11_ruleLetter_0 : decode cX11_ruleLetter 0 = .ok (.aload_n 0, 1) := by decide +kernel
theorem dX11_ruleLetter_1 : decode cX11_ruleLetter 1 = .ok (.iconst 0, 1) := by decide +kernel
theorem dX11_ruleLetter_2 : decode cX11_ruleLetter 2 = .ok (.putfield 67, 3) := by decide +kernel
theorem dX11_ruleLetter_5 : decode cX11_ruleLetter 5 = .ok (.aload_n 0, 1) := by decide +kernel
theorem dX11_ruleLetter_6 : decode cX11_ruleLetter 6 = .ok (.iload_n 1, 1) := by decide +kernel
theorem dX11_ruleLetter_7 : decode cX11_ruleLetter 7 = .ok (.invokevirtual 402, 3) := by decide +kernel
theorem dX11_ruleLetter_10 : decode cX11_ruleLetter 10 = .ok (.ifCond .eq 5, 3) := by decide +kernel
theorem dX11_ruleLetter_13 : decode cX11_ruleLetter 13 = .ok (.iconst 0, 1) := by decide +kernel
theorem dX11_ruleLetter_14 : decode cX11_ruleLetter 14 = .ok (.ireturn, 1) := by decide +kernel
theorem dX11_ruleLetter_15 : decode cX11_ruleLetter 15 = .ok (.iload_n 2, 1) := by decide +kernel
theorem dX11_ruleLetter_16 : decode cX11_ruleLetter 16 = .ok (.iconst 0, 1) := by decide +kernel
theorem dX11_ruleLetter_17 : decode cX11_ruleLetter 17 = .ok (.aload_n 0, 1) := by decide +kernel
theorem dX11_ruleLetter_18 : decode cX11_ruleLetter 18 = .ok (.iload_n 1, 1) := by decide +kernel
theorem dX11_ruleLetter_19 : decode cX11_ruleLetter 19 = .ok (.iconst 0, 1) := by decide +kernel
theorem dX11_ruleLetter_20 : decode cX11_ruleLetter 20 = .ok (.invokevirtual 85, 3) := by decide +kernel
theorem dX11_ruleLetter_23 : decode cX11_ruleLetter 23 = .ok (.iconst 1, 1) := by decide +kernel
theorem dX11_ruleLetter_24 : decode cX11_ruleLetter 24 = .ok (.isub, 1) := by decide +kernel
theorem dX11_ruleLetter_25 : decode cX11_ruleLetter 25 = .ok (.invokestatic 77, 3) := by decide +kernel
theorem dX11_ruleLetter_28 : decode cX11_ruleLetter 28 = .ok (.ifCond .eq 14, 3) := by decide +kernel
theorem dX11_ruleLetter_31 : decode cX11_ruleLetter 31 = .ok (.aload_n 0, 1) := by decide +kernel
theorem dX11_ruleLetter_32 : decode cX11_ruleLetter 32 = .ok (.iload_n 1, 1) := by decide +kernel
theorem dX11_ruleLetter_33 : decode cX11_ruleLetter 33 = .ok (.iconst 1, 1) := by decide +kernel
theorem dX11_ruleLetter_34 : decode cX11_ruleLetter 34 = .ok (.iload_n 2, 1) := by decide +kernel
theorem dX11_ruleLetter_35 : decode cX11_ruleLetter 35 = .ok (.iadd, 1) := by decide +kernel
theorem dX11_ruleLetter_36 : decode cX11_ruleLetter 36 = .ok (.invokevirtual 85, 3) := by decide +kernel
theorem dX11_ruleLetter_39 : decode cX11_ruleLetter 39 = .ok (.goto 4, 3) := by decide +kernel
theorem dX11_ruleLetter_42 : decode cX11_ruleLetter 42 = .ok (.iconst 0, 1) := by decide +kernel
theorem dX11_ruleLetter_43 : decode cX11_ruleLetter 43 = .ok (.ireturn, 1) := by decide +kernel
theorem dX11_ofPart_0 : decode cX11_ofPart 0 = .ok (.aload_n 0, 1) := by decide +kernel
theorem dX11_ofPart_1 : decode cX11_ofPart 1 = .ok (.iload_n 1, 1) := by decide +kernel
theorem dX11_ofPart_2 : decode cX11_ofPart 2 = .ok (.invokevirtual 182, 3) := by decide +kernel
theorem dX11_ofPart_5 : decode cX11_ofPart 5 = .ok (.istore_n 3, 1) := by decide +kernel
theorem dX11_ofPart_6 : decode cX11_ofPart 6 = .ok (.aload_n 0, 1) := by decide +kernel
theorem dX11_ofPart_7 : decode cX11_ofPart 7 = .ok (.iload_n 1, 1) := by decide +kernel
theorem dX11_ofPart_8 : decode cX11_ofPart 8 = .ok (.invokevirtual 191, 3) := by decide +kernel
theorem dX11_ofPart_11 : decode cX11_ofPart 11 = .ok (.istore 4, 2) := by decide +kernel
theorem dX11_ofPart_13 : decode cX11_ofPart 13 = .ok (.iload_n 2, 1) := by decide +kernel
theorem dX11_ofPart_14 : decode cX11_ofPart 14 = .ok (.tableswitch 141 0 7 #[46, 56, 77, 83, 98, 106, 113, 120], 46) := by decide +kernel
theorem dX11_ofPart_60 : decode cX11_ofPart 60 = .ok (.iload_n 3, 1) := by decide +kernel
theorem dX11_ofPart_61 : decode cX11_ofPart 61 = .ok (.ifCond .eq 7, 3) := by decide +kernel
theorem dX11_ofPart_64 : decode cX11_ofPart 64 = .ok (.iconst 0, 1) := by decide +kernel
theorem dX11_ofPart_65 : decode cX11_ofPart 65 = .ok (.goto 4, 3) := by decide +kernel
theorem dX11_ofPart_68 : decode cX11_ofPart 68 = .ok (.iconst 1, 1) := by decide +kernel
theorem dX11_ofPart_69 : decode cX11_ofPart 69 = .ok (.ireturn, 1) := by decide +kernel
theorem dX11_ofPart_70 : decode cX11_ofPart 70 = .ok (.iload_n 3, 1) := by decide +kernel
theorem dX11_ofPart_71 : decode cX11_ofPart 71 = .ok (.ifCond .eq 12, 3) := by decide +kernel
theorem dX11_ofPart_74 : decode cX11_ofPart 74 = .ok (.aload_n 0, 1) := by decide +kernel
theorem dX11_ofPart_75 : decode cX11_ofPart 75 = .ok (.iload_n 1, 1) := by decide +kernel
theorem dX11_ofPart_76 : decode cX11_ofPart 76 = .ok (.iconst 0, 1) := by decide +kernel
theorem dX11_ofPart_77 : decode cX11_ofPart 77 = .ok (.invokevirtual 185, 3) := by decide +kernel
theorem dX11_ofPart_80 : decode cX11_ofPart 80 = .ok (.goto 10, 3) := by decide +kernel
theorem dX11_ofPart_83 : decode cX11_ofPart 83 = .ok (.aload_n 0, 1) := by decide +kernel
theorem dX11_ofPart_84 : decode cX11_ofPart 84 = .ok (.iload 4, 2) := by decide +kernel
theorem dX11_ofPart_86 : decode cX11_ofPart 86 = .ok (.iconst 1, 1) := by decide +kernel
theorem dX11_ofPart_87 : decode cX11_ofPart 87 = .ok (.invokevirtual 194, 3) := by decide +kernel
theorem dX11_ofPart_90 : decode cX11_ofPart 90 = .ok (.ireturn, 1) := by decide +kernel
theorem dX11_ofPart_91 : decode cX11_ofPart 91 = .ok (.aload_n 0, 1) := by decide +kernel
theorem dX11_ofPart_92 : decode cX11_ofPart 92 = .ok (.iload_n 1, 1) := by decide +kernel
theorem dX11_ofPart_93 : decode cX11_ofPart 93 = .ok (.invokevirtual 200, 3) := by decide +kernel
theorem dX11_ofPart_96 : decode cX11_ofPart 96 = .ok (.ireturn, 1) := by decide +kernel
theorem dX11_ofPart_97 : decode cX11_ofPart 97 = .ok (.iload_n 3, 1) := by decide +kernel
theorem dX11_ofPart_98 : decode cX11_ofPart 98 = .ok (.ifCond .eq 12, 3) := by decide +kernel
theorem dX11_ofPart_101 : decode cX11_ofPart 101 = .ok (.aload_n 0, 1) := by decide +kernel
theorem dX11_ofPart_102 : decode cX11_ofPart 102 = .ok (.iload_n 1, 1) := by decide +kernel
theorem dX11_ofPart_103 : decode cX11_ofPart 103 = .ok (.iconst 2, 1) := by decide +kernel
theorem dX11_ofPart_104 : decode cX11_ofPart 104 = .ok (.invokevirtual 185, 3) := by decide +kernel
theorem dX11_ofPart_107 : decode cX11_ofPart 107 = .ok (.goto 4, 3) := by decide +kernel
theorem dX11_ofPart_110 : decode cX11_ofPart 110 = .ok (.iconst (-1), 1) := by decide +kernel
theorem dX11_ofPart_111 : decode cX11_ofPart 111 = .ok (.ireturn, 1) := by decide +kernel
theorem dX11_ofPart_112 : decode cX11_ofPart 112 = .ok (.aload_n 0, 1) := by decide +kernel
theorem dX11_ofPart_113 : decode cX11_ofPart 113 = .ok (.iload_n 1, 1) := by decide +kernel
theorem dX11_ofPart_114 : decode cX11_ofPart 114 = .ok (.iconst 0, 1) := by decide +kernel
theorem dX11_ofPart_115 : decode cX11_ofPart 115 = .ok (.iconst 0, 1) := by decide +kernel
theorem dX11_ofPart_116 : decode cX11_ofPart 116 = .ok (.invokevirtual 197, 3) := by decide +kernel
theorem dX11_ofPart_119 : decode cX11_ofPart 119 = .ok (.ireturn, 1) := by decide +kernel
theorem dX11_ofPart_120 : decode cX11_ofPart 120 = .ok (.aload_n 0, 1) := by decide +kernel
theorem dX11_ofPart_121 : decode cX11_ofPart 121 = .ok (.iload_n 1, 1) := by decide +kernel
theorem dX11_ofPart_122 : decode cX11_ofPart 122 = .ok (.iconst 0, 1) := by decide +kernel
theorem dX11_ofPart_123 : decode cX11_ofPart 123 = .ok (.invokevirtual 212, 3) := by decide +kernel
theorem dX11_ofPart_126 : decode cX11_ofPart 126 = .ok (.ireturn, 1) := by decide +kernel
theorem dX11_ofPart_127 : decode cX11_ofPart 127 = .ok (.aload_n 0, 1) := by decide +kernel
theorem dX11_ofPart_128 : decode cX11_ofPart 128 = .ok (.iload_n 1, 1) := by decide +kernel
theorem dX11_ofPart_129 : decode cX11_ofPart 129 = .ok (.iconst 1, 1) := by decide +kernel
theorem dX11_ofPart_130 : decode cX11_ofPart 130 = .ok (.invokevirtual 212, 3) := by decide +kernel
theorem dX11_ofPart_133 : decode cX11_ofPart 133 = .ok (.ireturn, 1) := by decide +kernel
theorem dX11_ofPart_134 : decode cX11_ofPart 134 = .ok (.iload_n 3, 1) := by decide +kernel
theorem dX11_ofPart_135 : decode cX11_ofPart 135 = .ok (.ifCond .eq 12, 3) := by decide +kernel
theorem dX11_ofPart_138 : decode cX11_ofPart 138 = .ok (.aload_n 0, 1) := by decide +kernel
theorem dX11_ofPart_139 : decode cX11_ofPart 139 = .ok (.iload_n 1, 1) := by decide +kernel
theorem dX11_ofPart_140 : decode cX11_ofPart 140 = .ok (.iconst 3, 1) := by decide +kernel
theorem dX11_ofPart_141 : decode cX11_ofPart 141 = .ok (.invokevirtual 185, 3) := by decide +kernel
theorem dX11_ofPart_144 : decode cX11_ofPart 144 = .ok (.goto 10, 3) := by decide +kernel
theorem dX11_ofPart_147 : decode cX11_ofPart 147 = .ok (.aload_n 0, 1) := by decide +kernel
theorem dX11_ofPart_148 : decode cX11_ofPart 148 = .ok (.iload 4, 2) := by decide +kernel
theorem dX11_ofPart_150 : decode cX11_ofPart 150 = .ok (.iconst 2, 1) := by decide +kernel
theorem dX11_ofPart_151 : decode cX11_ofPart 151 = .ok (.invokevirtual 194, 3) := by decide +kernel
theorem dX11_ofPart_154 : decode cX11_ofPart 154 = .ok (.ireturn, 1) := by decide +kernel
theorem dX11_ofPart_155 : decode cX11_ofPart 155 = .ok (.iload_n 3, 1) := by decide +kernel
theorem dX11_ofPart_156 : decode cX11_ofPart 156 = .ok (.ifCond .eq 12, 3) := by decide +kernel
theorem dX11_ofPart_159 : decode cX11_ofPart 159 = .ok (.aload_n 0, 1) := by decide +kernel
theorem dX11_ofPart_160 : decode cX11_ofPart 160 = .ok (.iload_n 1, 1) := by decide +kernel
theorem dX11_ofPart_161 : decode cX11_ofPart 161 = .ok (.iconst 4, 1) := by decide +kernel
theorem dX11_ofPart_162 : decode cX11_ofPart 162 = .ok (.invokevirtual 185, 3) := by decide +kernel
theorem dX11_ofPart_165 : decode cX11_ofPart 165 = .ok (.goto 4, 3) := by decide +kernel
theorem dX11_ofPart_168 : decode cX11_ofPart 168 = .ok (.iconst (-1), 1) := by decide +kernel
theorem dX11_ofPart_169 : decode cX11_ofPart 169 = .ok (.ireturn, 1) := by decide +kernel
theorem dX11_part_0 : decode cX11_part 0 = .ok (.aload_n 0, 1) := by decide +kernel
theorem dX11_part_1 : decode cX11_part 1 = .ok (.iconst 0, 1) := by decide +kernel
theorem dX11_part_2 : decode cX11_part 2 = .ok (.putfield 67, 3) := by decide +kernel
theorem dX11_part_5 : decode cX11_part 5 = .ok (.aload_n 0, 1) := by decide +kernel
theorem dX11_part_6 : decode cX11_part 6 = .ok (.iload_n 1, 1) := by decide +kernel
theorem dX11_part_7 : decode cX11_part 7 = .ok (.invokevirtual 418, 3) := by decide +kernel
theorem dX11_part_10 : decode cX11_part 10 = .ok (.ifCond .ne 26, 3) := by decide +kernel
theorem dX11_part_13 : decode cX11_part 13 = .ok (.aload_n 0, 1) := by decide +kernel
theorem dX11_part_14 : decode cX11_part 14 = .ok (.iload_n 2, 1) := by decide +kernel
theorem dX11_part_15 : decode cX11_part 15 = .ok (.iconst 0, 1) := by decide +kernel
theorem dX11_part_16 : decode cX11_part 16 = .ok (.bipush 8, 2) := by decide +kernel
theorem dX11_part_18 : decode cX11_part 18 = .ok (.invokestatic 77, 3) := by decide +kernel
theorem dX11_part_21 : decode cX11_part 21 = .ok (.ifCond .ne 7, 3) := by decide +kernel
theorem dX11_part_24 : decode cX11_part 24 = .ok (.iconst 1, 1) := by decide +kernel
theorem dX11_part_25 : decode cX11_part 25 = .ok (.goto 4, 3) := by decide +kernel
theorem dX11_part_28 : decode cX11_part 28 = .ok (.iconst 0, 1) := by decide +kernel
theorem dX11_part_29 : decode cX11_part 29 = .ok (.iconst 2, 1) := by decide +kernel
theorem dX11_part_30 : decode cX11_part 30 = .ok (.invokevirtual 81, 3) := by decide +kernel
theorem dX11_part_33 : decode cX11_part 33 = .ok (.ifCond .eq 5, 3) := by decide +kernel
theorem dX11_part_36 : decode cX11_part 36 = .ok (.iconst 0, 1) := by decide +kernel
theorem dX11_part_37 : decode cX11_part 37 = .ok (.ireturn, 1) := by decide +kernel
theorem dX11_part_38 : decode cX11_part 38 = .ok (.aload_n 0, 1) := by decide +kernel
theorem dX11_part_39 : decode cX11_part 39 = .ok (.invokevirtual 389, 3) := by decide +kernel
theorem dX11_part_42 : decode cX11_part 42 = .ok (.aload_n 0, 1) := by decide +kernel
theorem dX11_part_43 : decode cX11_part 43 = .ok (.iload_n 1, 1) := by decide +kernel
theorem dX11_part_44 : decode cX11_part 44 = .ok (.iload_n 2, 1) := by decide +kernel
theorem dX11_part_45 : decode cX11_part 45 = .ok (.invokevirtual 421, 3) := by decide +kernel
theorem dX11_part_48 : decode cX11_part 48 = .ok (.ireturn, 1) := by decide +kernel
theorem dX11_noPair_0 : decode cX11_noPair 0 = .ok (.aload_n 0, 1) := by decide +kernel
theorem dX11_noPair_1 : decode cX11_noPair 1 = .ok (.iload_n 1, 1) := by decide +kernel
theorem dX11_noPair_2 : decode cX11_noPair 2 = .ok (.iconst 0, 1) := by decide +kernel
theorem dX11_noPair_3 : decode cX11_noPair 3 = .ok (.bipush 40, 2) := by decide +kernel
theorem dX11_noPair_5 : decode cX11_noPair 5 = .ok (.invokestatic 77, 3) := by decide +kernel
theorem dX11_noPair_8 : decode cX11_noPair 8 = .ok (.ifCond .eq 13, 3) := by decide +kernel
theorem dX11_noPair_11 : decode cX11_noPair 11 = .ok (.iload_n 2, 1) := by decide +kernel
theorem dX11_noPair_12 : decode cX11_noPair 12 = .ok (.iconst 0, 1) := by decide +kernel
theorem dX11_noPair_13 : decode cX11_noPair 13 = .ok (.bipush 40, 2) := by decide +kernel
theorem dX11_noPair_15 : decode cX11_noPair 15 = .ok (.invokestatic 77, 3) := by decide +kernel
theorem dX11_noPair_18 : decode cX11_noPair 18 = .ok (.ifCond .ne 7, 3) := by decide +kernel
theorem dX11_noPair_21 : decode cX11_noPair 21 = .ok (.iconst 1, 1) := by decide +kernel
theorem dX11_noPair_22 : decode cX11_noPair 22 = .ok (.goto 4, 3) := by decide +kernel
theorem dX11_noPair_25 : decode cX11_noPair 25 = .ok (.iconst 0, 1) := by decide +kernel
theorem dX11_noPair_26 : decode cX11_noPair 26 = .ok (.iconst 2, 1) := by decide +kernel
theorem dX11_noPair_27 : decode cX11_noPair 27 = .ok (.invokevirtual 81, 3) := by decide +kernel
theorem dX11_noPair_30 : decode cX11_noPair 30 = .ok (.ireturn, 1) := by decide +kernel
theorem dX11_allows_0 : decode cX11_allows 0 = .ok (.aload_n 0, 1) := by decide +kernel
theorem dX11_allows_1 : decode cX11_allows 1 = .ok (.iconst 0, 1) := by decide +kernel
theorem dX11_allows_2 : decode cX11_allows 2 = .ok (.putfield 67, 3) := by decide +kernel
theorem dX11_allows_5 : decode cX11_allows 5 = .ok (.aload_n 0, 1) := by decide +kernel
theorem dX11_allows_6 : decode cX11_allows 6 = .ok (.iload_n 1, 1) := by decide +kernel
theorem dX11_allows_7 : decode cX11_allows 7 = .ok (.invokevirtual 402, 3) := by decide +kernel
theorem dX11_allows_10 : decode cX11_allows 10 = .ok (.ifCond .ne 26, 3) := by decide +kernel
theorem dX11_allows_13 : decode cX11_allows 13 = .ok (.aload_n 0, 1) := by decide +kernel
theorem dX11_allows_14 : decode cX11_allows 14 = .ok (.iload_n 2, 1) := by decide +kernel
theorem dX11_allows_15 : decode cX11_allows 15 = .ok (.iload_n 3, 1) := by decide +kernel
theorem dX11_allows_16 : decode cX11_allows 16 = .ok (.invokevirtual 424, 3) := by decide +kernel
theorem dX11_allows_19 : decode cX11_allows 19 = .ok (.ifCond .ne 17, 3) := by decide +kernel
theorem dX11_allows_22 : decode cX11_allows 22 = .ok (.aload_n 0, 1) := by decide +kernel
theorem dX11_allows_23 : decode cX11_allows 23 = .ok (.iload_n 1, 1) := by decide +kernel
theorem dX11_allows_24 : decode cX11_allows 24 = .ok (.iload_n 2, 1) := by decide +kernel
theorem dX11_allows_25 : decode cX11_allows 25 = .ok (.iload_n 3, 1) := by decide +kernel
theorem dX11_allows_26 : decode cX11_allows 26 = .ok (.invokevirtual 109, 3) := by decide +kernel
theorem dX11_allows_29 : decode cX11_allows 29 = .ok (.ifCond .eq 7, 3) := by decide +kernel
theorem dX11_allows_32 : decode cX11_allows 32 = .ok (.iconst 1, 1) := by decide +kernel
theorem dX11_allows_33 : decode cX11_allows 33 = .ok (.goto 4, 3) := by decide +kernel
theorem dX11_allows_36 : decode cX11_allows 36 = .ok (.iconst 0, 1) := by decide +kernel
theorem dX11_allows_37 : decode cX11_allows 37 = .ok (.ireturn, 1) := by decide +kernel
theorem dX11_whyNot_0 : decode cX11_whyNot 0 = .ok (.aload_n 0, 1) := by decide +kernel
theorem dX11_whyNot_1 : decode cX11_whyNot 1 = .ok (.iconst 0, 1) := by decide +kernel
theorem dX11_whyNot_2 : decode cX11_whyNot 2 = .ok (.putfield 67, 3) := by decide +kernel
theorem dX11_whyNot_5 : decode cX11_whyNot 5 = .ok (.aload_n 0, 1) := by decide +kernel
theorem dX11_whyNot_6 : decode cX11_whyNot 6 = .ok (.iload_n 1, 1) := by decide +kernel
theorem dX11_whyNot_7 : decode cX11_whyNot 7 = .ok (.invokevirtual 418, 3) := by decide +kernel
theorem dX11_whyNot_10 : decode cX11_whyNot 10 = .ok (.ifCond .eq 7, 3) := by decide +kernel
theorem dX11_whyNot_13 : decode cX11_whyNot 13 = .ok (.iconst 0, 1) := by decide +kernel
theorem dX11_whyNot_14 : decode cX11_whyNot 14 = .ok (.goto 10, 3) := by decide +kernel
theorem dX11_whyNot_17 : decode cX11_whyNot 17 = .ok (.aload_n 0, 1) := by decide +kernel
theorem dX11_whyNot_18 : decode cX11_whyNot 18 = .ok (.iload_n 1, 1) := by decide +kernel
theorem dX11_whyNot_19 : decode cX11_whyNot 19 = .ok (.iload_n 2, 1) := by decide +kernel
theorem dX11_whyNot_20 : decode cX11_whyNot 20 = .ok (.iload_n 3, 1) := by decide +kernel
theorem dX11_whyNot_21 : decode cX11_whyNot 21 = .ok (.invokevirtual 209, 3) := by decide +kernel
theorem dX11_whyNot_24 : decode cX11_whyNot 24 = .ok (.ireturn, 1) := by decide +kernel
theorem dX11_value_0 : decode cX11_value 0 = .ok (.aload_n 0, 1) := by decide +kernel
theorem dX11_value_1 : decode cX11_value 1 = .ok (.iconst 0, 1) := by decide +kernel
theorem dX11_value_2 : decode cX11_value 2 = .ok (.putfield 67, 3) := by decide +kernel
theorem dX11_value_5 : decode cX11_value 5 = .ok (.aload_n 0, 1) := by decide +kernel
theorem dX11_value_6 : decode cX11_value 6 = .ok (.iload_n 1, 1) := by decide +kernel
theorem dX11_value_7 : decode cX11_value 7 = .ok (.invokevirtual 402, 3) := by decide +kernel
theorem dX11_value_10 : decode cX11_value 10 = .ok (.ifCond .ne 12, 3) := by decide +kernel
theorem dX11_value_13 : decode cX11_value 13 = .ok (.aload_n 0, 1) := by decide +kernel
theorem dX11_value_14 : decode cX11_value 14 = .ok (.iload_n 2, 1) := by decide +kernel
theorem dX11_value_15 : decode cX11_value 15 = .ok (.iload_n 3, 1) := by decide +kernel
theorem dX11_value_16 : decode cX11_value 16 = .ok (.invokevirtual 424, 3) := by decide +kernel
theorem dX11_value_19 : decode cX11_value 19 = .ok (.ifCond .eq 5, 3) := by decide +kernel
theorem dX11_value_22 : decode cX11_value 22 = .ok (.iconst 0, 1) := by decide +kernel
theorem dX11_value_23 : decode cX11_value 23 = .ok (.ireturn, 1) := by decide +kernel
theorem dX11_value_24 : decode cX11_value 24 = .ok (.aload_n 0, 1) := by decide +kernel
theorem dX11_value_25 : decode cX11_value 25 = .ok (.iload_n 1, 1) := by decide +kernel
theorem dX11_value_26 : decode cX11_value 26 = .ok (.invokevirtual 143, 3) := by decide +kernel
theorem dX11_value_29 : decode cX11_value 29 = .ok (.aload_n 0, 1) := by decide +kernel
theorem dX11_value_30 : decode cX11_value 30 = .ok (.iload_n 1, 1) := by decide +kernel
theorem dX11_value_31 : decode cX11_value 31 = .ok (.iload_n 2, 1) := by decide +kernel
theorem dX11_value_32 : decode cX11_value 32 = .ok (.iload_n 3, 1) := by decide +kernel
theorem dX11_value_33 : decode cX11_value 33 = .ok (.invokevirtual 188, 3) := by decide +kernel
theorem dX11_value_36 : decode cX11_value 36 = .ok (.ireturn, 1) := by decide +kernel
theorem dX11_span_0 : decode cX11_span 0 = .ok (.aload_n 0, 1) := by decide +kernel
theorem dX11_span_1 : decode cX11_span 1 = .ok (.iconst 0, 1) := by decide +kernel
theorem dX11_span_2 : decode cX11_span 2 = .ok (.putfield 67, 3) := by decide +kernel
theorem dX11_span_5 : decode cX11_span 5 = .ok (.aload_n 0, 1) := by decide +kernel
theorem dX11_span_6 : decode cX11_span 6 = .ok (.iload_n 1, 1) := by decide +kernel
theorem dX11_span_7 : decode cX11_span 7 = .ok (.invokevirtual 402, 3) := by decide +kernel
theorem dX11_span_10 : decode cX11_span 10 = .ok (.ifCond .ne 12, 3) := by decide +kernel
theorem dX11_span_13 : decode cX11_span 13 = .ok (.aload_n 0, 1) := by decide +kernel
theorem dX11_span_14 : decode cX11_span 14 = .ok (.iload_n 2, 1) := by decide +kernel
theorem dX11_span_15 : decode cX11_span 15 = .ok (.iload_n 3, 1) := by decide +kernel
theorem dX11_span_16 : decode cX11_span 16 = .ok (.invokevirtual 424, 3) := by decide +kernel
theorem dX11_span_19 : decode cX11_span 19 = .ok (.ifCond .eq 5, 3) := by decide +kernel
theorem dX11_span_22 : decode cX11_span 22 = .ok (.iconst 0, 1) := by decide +kernel
theorem dX11_span_23 : decode cX11_span 23 = .ok (.ireturn, 1) := by decide +kernel
theorem dX11_span_24 : decode cX11_span 24 = .ok (.aload_n 0, 1) := by decide +kernel
theorem dX11_span_25 : decode cX11_span 25 = .ok (.iload_n 1, 1) := by decide +kernel
theorem dX11_span_26 : decode cX11_span 26 = .ok (.invokevirtual 143, 3) := by decide +kernel
theorem dX11_span_29 : decode cX11_span 29 = .ok (.aload_n 0, 1) := by decide +kernel
theorem dX11_span_30 : decode cX11_span 30 = .ok (.getfield 41, 3) := by decide +kernel
theorem dX11_span_33 : decode cX11_span 33 = .ok (.sipush 1681, 3) := by decide +kernel
theorem dX11_span_36 : decode cX11_span 36 = .ok (.iload_n 1, 1) := by decide +kernel
theorem dX11_span_37 : decode cX11_span 37 = .ok (.imul, 1) := by decide +kernel
theorem dX11_span_38 : decode cX11_span 38 = .ok (.bipush 41, 2) := by decide +kernel
theorem dX11_span_40 : decode cX11_span 40 = .ok (.iload_n 2, 1) := by decide +kernel
theorem dX11_span_41 : decode cX11_span 41 = .ok (.imul, 1) := by decide +kernel
theorem dX11_span_42 : decode cX11_span 42 = .ok (.iadd, 1) := by decide +kernel
theorem dX11_span_43 : decode cX11_span 43 = .ok (.iload_n 3, 1) := by decide +kernel
theorem dX11_span_44 : decode cX11_span 44 = .ok (.iadd, 1) := by decide +kernel
theorem dX11_span_45 : decode cX11_span 45 = .ok (.iaload, 1) := by decide +kernel
theorem dX11_span_46 : decode cX11_span 46 = .ok (.ireturn, 1) := by decide +kernel
theorem dX11_losing_0 : decode cX11_losing 0 = .ok (.aload_n 0, 1) := by decide +kernel
theorem dX11_losing_1 : decode cX11_losing 1 = .ok (.iconst 0, 1) := by decide +kernel
theorem dX11_losing_2 : decode cX11_losing 2 = .ok (.putfield 67, 3) := by decide +kernel
theorem dX11_losing_5 : decode cX11_losing 5 = .ok (.aload_n 0, 1) := by decide +kernel
theorem dX11_losing_6 : decode cX11_losing 6 = .ok (.iload_n 1, 1) := by decide +kernel
theorem dX11_losing_7 : decode cX11_losing 7 = .ok (.invokevirtual 402, 3) := by decide +kernel
theorem dX11_losing_10 : decode cX11_losing 10 = .ok (.ifCond .eq 5, 3) := by decide +kernel
theorem dX11_losing_13 : decode cX11_losing 13 = .ok (.iconst 0, 1) := by decide +kernel
theorem dX11_losing_14 : decode cX11_losing 14 = .ok (.ireturn, 1) := by decide +kernel
theorem dX11_losing_15 : decode cX11_losing 15 = .ok (.aload_n 0, 1) := by decide +kernel
theorem dX11_losing_16 : decode cX11_losing 16 = .ok (.iload_n 1, 1) := by decide +kernel
theorem dX11_losing_17 : decode cX11_losing 17 = .ok (.invokevirtual 143, 3) := by decide +kernel
theorem dX11_losing_20 : decode cX11_losing 20 = .ok (.iload_n 2, 1) := by decide +kernel
theorem dX11_losing_21 : decode cX11_losing 21 = .ok (.istore 4, 2) := by decide +kernel
theorem dX11_losing_23 : decode cX11_losing 23 = .ok (.iconst 0, 1) := by decide +kernel
theorem dX11_losing_24 : decode cX11_losing 24 = .ok (.istore 5, 2) := by decide +kernel
theorem dX11_losing_26 : decode cX11_losing 26 = .ok (.iload 5, 2) := by decide +kernel
theorem dX11_losing_28 : decode cX11_losing 28 = .ok (.sipush 1681, 3) := by decide +kernel
theorem dX11_losing_31 : decode cX11_losing 31 = .ok (.if_icmp .ge 59, 3) := by decide +kernel
theorem dX11_losing_34 : decode cX11_losing 34 = .ok (.iload 4, 2) := by decide +kernel
theorem dX11_losing_36 : decode cX11_losing 36 = .ok (.ifCond .lt 54, 3) := by decide +kernel
theorem dX11_losing_39 : decode cX11_losing 39 = .ok (.aload_n 0, 1) := by decide +kernel
theorem dX11_losing_40 : decode cX11_losing 40 = .ok (.getfield 38, 3) := by decide +kernel
theorem dX11_losing_43 : decode cX11_losing 43 = .ok (.sipush 1681, 3) := by decide +kernel
theorem dX11_losing_46 : decode cX11_losing 46 = .ok (.iload_n 1, 1) := by decide +kernel
theorem dX11_losing_47 : decode cX11_losing 47 = .ok (.imul, 1) := by decide +kernel
theorem dX11_losing_48 : decode cX11_losing 48 = .ok (.iload 5, 2) := by decide +kernel
theorem dX11_losing_50 : decode cX11_losing 50 = .ok (.iadd, 1) := by decide +kernel
theorem dX11_losing_51 : decode cX11_losing 51 = .ok (.iaload, 1) := by decide +kernel
theorem dX11_losing_52 : decode cX11_losing 52 = .ok (.ifCond .eq 6, 3) := by decide +kernel
theorem dX11_losing_55 : decode cX11_losing 55 = .ok (.goto 29, 3) := by decide +kernel
theorem dX11_losing_58 : decode cX11_losing 58 = .ok (.iload 4, 2) := by decide +kernel
theorem dX11_losing_60 : decode cX11_losing 60 = .ok (.ifCond .ne 21, 3) := by decide +kernel
theorem dX11_losing_63 : decode cX11_losing 63 = .ok (.iload_n 3, 1) := by decide +kernel
theorem dX11_losing_64 : decode cX11_losing 64 = .ok (.ifCond .eq 11, 3) := by decide +kernel
theorem dX11_losing_67 : decode cX11_losing 67 = .ok (.iload 5, 2) := by decide +kernel
theorem dX11_losing_69 : decode cX11_losing 69 = .ok (.bipush 41, 2) := by decide +kernel
theorem dX11_losing_71 : decode cX11_losing 71 = .ok (.irem, 1) := by decide +kernel
theorem dX11_losing_72 : decode cX11_losing 72 = .ok (.goto 8, 3) := by decide +kernel
theorem dX11_losing_75 : decode cX11_losing 75 = .ok (.iload 5, 2) := by decide +kernel
theorem dX11_losing_77 : decode cX11_losing 77 = .ok (.bipush 41, 2) := by decide +kernel
theorem dX11_losing_79 : decode cX11_losing 79 = .ok (.idiv, 1) := by decide +kernel
theorem dX11_losing_80 : decode cX11_losing 80 = .ok (.ireturn, 1) := by decide +kernel
theorem dX11_losing_81 : decode cX11_losing 81 = .ok (.iinc 4 (-1), 3) := by decide +kernel
theorem dX11_losing_84 : decode cX11_losing 84 = .ok (.iinc 5 1, 3) := by decide +kernel
theorem dX11_losing_87 : decode cX11_losing 87 = .ok (.goto (-61), 3) := by decide +kernel
theorem dX11_losing_90 : decode cX11_losing 90 = .ok (.iconst (-1), 1) := by decide +kernel
theorem dX11_losing_91 : decode cX11_losing 91 = .ok (.ireturn, 1) := by decide +kernel
theorem dX11_partner_0 : decode cX11_partner 0 = .ok (.aload_n 0, 1) := by decide +kernel
theorem dX11_partner_1 : decode cX11_partner 1 = .ok (.iconst 0, 1) := by decide +kernel
theorem dX11_partner_2 : decode cX11_partner 2 = .ok (.putfield 67, 3) := by decide +kernel
theorem dX11_partner_5 : decode cX11_partner 5 = .ok (.aload_n 0, 1) := by decide +kernel
theorem dX11_partner_6 : decode cX11_partner 6 = .ok (.iload_n 1, 1) := by decide +kernel
theorem dX11_partner_7 : decode cX11_partner 7 = .ok (.invokevirtual 402, 3) := by decide +kernel
theorem dX11_partner_10 : decode cX11_partner 10 = .ok (.ifCond .ne 12, 3) := by decide +kernel
theorem dX11_partner_13 : decode cX11_partner 13 = .ok (.aload_n 0, 1) := by decide +kernel
theorem dX11_partner_14 : decode cX11_partner 14 = .ok (.iload_n 2, 1) := by decide +kernel
theorem dX11_partner_15 : decode cX11_partner 15 = .ok (.iconst 0, 1) := by decide +kernel
theorem dX11_partner_16 : decode cX11_partner 16 = .ok (.invokevirtual 424, 3) := by decide +kernel
theorem dX11_partner_19 : decode cX11_partner 19 = .ok (.ifCond .eq 5, 3) := by decide +kernel
theorem dX11_partner_22 : decode cX11_partner 22 = .ok (.iconst 0, 1) := by decide +kernel
theorem dX11_partner_23 : decode cX11_partner 23 = .ok (.ireturn, 1) := by decide +kernel
theorem dX11_partner_24 : decode cX11_partner 24 = .ok (.aload_n 0, 1) := by decide +kernel
theorem dX11_partner_25 : decode cX11_partner 25 = .ok (.iload_n 1, 1) := by decide +kernel
theorem dX11_partner_26 : decode cX11_partner 26 = .ok (.invokevirtual 143, 3) := by decide +kernel
theorem dX11_partner_29 : decode cX11_partner 29 = .ok (.iconst 0, 1) := by decide +kernel
theorem dX11_partner_30 : decode cX11_partner 30 = .ok (.istore_n 3, 1) := by decide +kernel
theorem dX11_partner_31 : decode cX11_partner 31 = .ok (.iload_n 3, 1) := by decide +kernel
theorem dX11_partner_32 : decode cX11_partner 32 = .ok (.bipush 40, 2) := by decide +kernel
theorem dX11_partner_34 : decode cX11_partner 34 = .ok (.if_icmp .gt 21, 3) := by decide +kernel
theorem dX11_partner_37 : decode cX11_partner 37 = .ok (.aload_n 0, 1) := by decide +kernel
theorem dX11_partner_38 : decode cX11_partner 38 = .ok (.iload_n 1, 1) := by decide +kernel
theorem dX11_partner_39 : decode cX11_partner 39 = .ok (.iload_n 2, 1) := by decide +kernel
theorem dX11_partner_40 : decode cX11_partner 40 = .ok (.iload_n 3, 1) := by decide +kernel
theorem dX11_partner_41 : decode cX11_partner 41 = .ok (.invokevirtual 188, 3) := by decide +kernel
theorem dX11_partner_44 : decode cX11_partner 44 = .ok (.ifCond .ne 5, 3) := by decide +kernel
theorem dX11_partner_47 : decode cX11_partner 47 = .ok (.iload_n 3, 1) := by decide +kernel
theorem dX11_partner_48 : decode cX11_partner 48 = .ok (.ireturn, 1) := by decide +kernel
theorem dX11_partner_49 : decode cX11_partner 49 = .ok (.iinc 3 1, 3) := by decide +kernel
theorem dX11_partner_52 : decode cX11_partner 52 = .ok (.goto (-21), 3) := by decide +kernel
theorem dX11_partner_55 : decode cX11_partner 55 = .ok (.iconst (-1), 1) := by decide +kernel
theorem dX11_partner_56 : decode cX11_partner 56 = .ok (.ireturn, 1) := by decide +kernel
theorem dX11_noSlack_0 : decode cX11_noSlack 0 = .ok (.aload_n 0, 1) := by decide +kernel
theorem dX11_noSlack_1 : decode cX11_noSlack 1 = .ok (.iload_n 1, 1) := by decide +kernel
theorem dX11_noSlack_2 : decode cX11_noSlack 2 = .ok (.iconst 1, 1) := by decide +kernel
theorem dX11_noSlack_3 : decode cX11_noSlack 3 = .ok (.iconst 5, 1) := by decide +kernel
theorem dX11_noSlack_4 : decode cX11_noSlack 4 = .ok (.invokestatic 77, 3) := by decide +kernel
theorem dX11_noSlack_7 : decode cX11_noSlack 7 = .ok (.ifCond .ne 7, 3) := by decide +kernel
theorem dX11_noSlack_10 : decode cX11_noSlack 10 = .ok (.iconst 1, 1) := by decide +kernel
theorem dX11_noSlack_11 : decode cX11_noSlack 11 = .ok (.goto 4, 3) := by decide +kernel
theorem dX11_noSlack_14 : decode cX11_noSlack 14 = .ok (.iconst 0, 1) := by decide +kernel
theorem dX11_noSlack_15 : decode cX11_noSlack 15 = .ok (.iconst 1, 1) := by decide +kernel
theorem dX11_noSlack_16 : decode cX11_noSlack 16 = .ok (.invokevirtual 81, 3) := by decide +kernel
theorem dX11_noSlack_19 : decode cX11_noSlack 19 = .ok (.ireturn, 1) := by decide +kernel
theorem dX11_noNumber_0 : decode cX11_noNumber 0 = .ok (.aload_n 0, 1) := by decide +kernel
theorem dX11_noNumber_1 : decode cX11_noNumber 1 = .ok (.iload_n 1, 1) := by decide +kernel
theorem dX11_noNumber_2 : decode cX11_noNumber 2 = .ok (.iload_n 2, 1) := by decide +kernel
theorem dX11_noNumber_3 : decode cX11_noNumber 3 = .ok (.iload_n 3, 1) := by decide +kernel
theorem dX11_noNumber_4 : decode cX11_noNumber 4 = .ok (.invokestatic 77, 3) := by decide +kernel
theorem dX11_noNumber_7 : decode cX11_noNumber 7 = .ok (.ifCond .ne 7, 3) := by decide +kernel
theorem dX11_noNumber_10 : decode cX11_noNumber 10 = .ok (.iconst 1, 1) := by decide +kernel
theorem dX11_noNumber_11 : decode cX11_noNumber 11 = .ok (.goto 4, 3) := by decide +kernel
theorem dX11_noNumber_14 : decode cX11_noNumber 14 = .ok (.iconst 0, 1) := by decide +kernel
theorem dX11_noNumber_15 : decode cX11_noNumber 15 = .ok (.iconst 1, 1) := by decide +kernel
theorem dX11_noNumber_16 : decode cX11_noNumber 16 = .ok (.invokevirtual 81, 3) := by decide +kernel
theorem dX11_noNumber_19 : decode cX11_noNumber 19 = .ok (.ireturn, 1) := by decide +kernel
theorem dX11_golden_0 : decode cX11_golden 0 = .ok (.aload_n 0, 1) := by decide +kernel
theorem dX11_golden_1 : decode cX11_golden 1 = .ok (.iconst 0, 1) := by decide +kernel
theorem dX11_golden_2 : decode cX11_golden 2 = .ok (.putfield 67, 3) := by decide +kernel
theorem dX11_golden_5 : decode cX11_golden 5 = .ok (.aload_n 0, 1) := by decide +kernel
theorem dX11_golden_6 : decode cX11_golden 6 = .ok (.iload_n 1, 1) := by decide +kernel
theorem dX11_golden_7 : decode cX11_golden 7 = .ok (.invokevirtual 427, 3) := by decide +kernel
theorem dX11_golden_10 : decode cX11_golden 10 = .ok (.ifCond .ne 15, 3) := by decide +kernel
theorem dX11_golden_13 : decode cX11_golden 13 = .ok (.aload_n 0, 1) := by decide +kernel
theorem dX11_golden_14 : decode cX11_golden 14 = .ok (.iload_n 2, 1) := by decide +kernel
theorem dX11_golden_15 : decode cX11_golden 15 = .ok (.iconst 0, 1) := by decide +kernel
theorem dX11_golden_16 : decode cX11_golden 16 = .ok (.ldc_w 430, 3) := by decide +kernel
theorem dX11_golden_19 : decode cX11_golden 19 = .ok (.invokevirtual 431, 3) := by decide +kernel
theorem dX11_golden_22 : decode cX11_golden 22 = .ok (.ifCond .eq 5, 3) := by decide +kernel
theorem dX11_golden_25 : decode cX11_golden 25 = .ok (.iconst 0, 1) := by decide +kernel
theorem dX11_golden_26 : decode cX11_golden 26 = .ok (.ireturn, 1) := by decide +kernel
theorem dX11_golden_27 : decode cX11_golden 27 = .ok (.iload_n 3, 1) := by decide +kernel
theorem dX11_golden_28 : decode cX11_golden 28 = .ok (.ifCond .eq 12, 3) := by decide +kernel
theorem dX11_golden_31 : decode cX11_golden 31 = .ok (.iload_n 1, 1) := by decide +kernel
theorem dX11_golden_32 : decode cX11_golden 32 = .ok (.iload_n 2, 1) := by decide +kernel
theorem dX11_golden_33 : decode cX11_golden 33 = .ok (.i2l, 1) := by decide +kernel
theorem dX11_golden_34 : decode cX11_golden 34 = .ok (.invokestatic 160, 3) := by decide +kernel
theorem dX11_golden_37 : decode cX11_golden 37 = .ok (.goto 9, 3) := by decide +kernel
theorem dX11_golden_40 : decode cX11_golden 40 = .ok (.iload_n 1, 1) := by decide +kernel
theorem dX11_golden_41 : decode cX11_golden 41 = .ok (.iload_n 2, 1) := by decide +kernel
theorem dX11_golden_42 : decode cX11_golden 42 = .ok (.i2l, 1) := by decide +kernel
theorem dX11_golden_43 : decode cX11_golden 43 = .ok (.invokestatic 156, 3) := by decide +kernel
theorem dX11_golden_46 : decode cX11_golden 46 = .ok (.l2i, 1) := by decide +kernel
theorem dX11_golden_47 : decode cX11_golden 47 = .ok (.ireturn, 1) := by decide +kernel
theorem dX11_goldenOf_0 : decode cX11_goldenOf 0 = .ok (.aload_n 0, 1) := by decide +kernel
theorem dX11_goldenOf_1 : decode cX11_goldenOf 1 = .ok (.iconst 0, 1) := by decide +kernel
theorem dX11_goldenOf_2 : decode cX11_goldenOf 2 = .ok (.putfield 67, 3) := by decide +kernel
theorem dX11_goldenOf_5 : decode cX11_goldenOf 5 = .ok (.aload_n 0, 1) := by decide +kernel
theorem dX11_goldenOf_6 : decode cX11_goldenOf 6 = .ok (.iload_n 1, 1) := by decide +kernel
theorem dX11_goldenOf_7 : decode cX11_goldenOf 7 = .ok (.invokevirtual 427, 3) := by decide +kernel
theorem dX11_goldenOf_10 : decode cX11_goldenOf 10 = .ok (.ifCond .ne 15, 3) := by decide +kernel
theorem dX11_goldenOf_13 : decode cX11_goldenOf 13 = .ok (.aload_n 0, 1) := by decide +kernel
theorem dX11_goldenOf_14 : decode cX11_goldenOf 14 = .ok (.iload_n 2, 1) := by decide +kernel
theorem dX11_goldenOf_15 : decode cX11_goldenOf 15 = .ok (.iconst 1, 1) := by decide +kernel
theorem dX11_goldenOf_16 : decode cX11_goldenOf 16 = .ok (.ldc_w 434, 3) := by decide +kernel
theorem dX11_goldenOf_19 : decode cX11_goldenOf 19 = .ok (.invokevirtual 431, 3) := by decide +kernel
theorem dX11_goldenOf_22 : decode cX11_goldenOf 22 = .ok (.ifCond .eq 5, 3) := by decide +kernel
theorem dX11_goldenOf_25 : decode cX11_goldenOf 25 = .ok (.iconst 0, 1) := by decide +kernel
theorem dX11_goldenOf_26 : decode cX11_goldenOf 26 = .ok (.ireturn, 1) := by decide +kernel
theorem dX11_goldenOf_27 : decode cX11_goldenOf 27 = .ok (.iload_n 1, 1) := by decide +kernel
theorem dX11_goldenOf_28 : decode cX11_goldenOf 28 = .ok (.iload_n 2, 1) := by decide +kernel
theorem dX11_goldenOf_29 : decode cX11_goldenOf 29 = .ok (.i2l, 1) := by decide +kernel
theorem dX11_goldenOf_30 : decode cX11_goldenOf 30 = .ok (.iconst 0, 1) := by decide +kernel
theorem dX11_goldenOf_31 : decode cX11_goldenOf 31 = .ok (.invokestatic 435, 3) := by decide +kernel
theorem dX11_goldenOf_34 : decode cX11_goldenOf 34 = .ok (.ifCond .ne 7, 3) := by decide +kernel
theorem dX11_goldenOf_37 : decode cX11_goldenOf 37 = .ok (.iconst 1, 1) := by decide +kernel
theorem dX11_goldenOf_38 : decode cX11_goldenOf 38 = .ok (.goto 4, 3) := by decide +kernel
theorem dX11_goldenOf_41 : decode cX11_goldenOf 41 = .ok (.iconst 0, 1) := by decide +kernel
theorem dX11_goldenOf_42 : decode cX11_goldenOf 42 = .ok (.istore_n 3, 1) := by decide +kernel
theorem dX11_goldenOf_43 : decode cX11_goldenOf 43 = .ok (.ldc2_w 150, 3) := by decide +kernel
theorem dX11_goldenOf_46 : decode cX11_goldenOf 46 = .ok (.iload_n 1, 1) := by decide +kernel
theorem dX11_goldenOf_47 : decode cX11_goldenOf 47 = .ok (.iload_n 2, 1) := by decide +kernel
theorem dX11_goldenOf_48 : decode cX11_goldenOf 48 = .ok (.i2l, 1) := by decide +kernel
theorem dX11_goldenOf_49 : decode cX11_goldenOf 49 = .ok (.iload_n 3, 1) := by decide +kernel
theorem dX11_goldenOf_50 : decode cX11_goldenOf 50 = .ok (.invokestatic 163, 3) := by decide +kernel
theorem dX11_goldenOf_53 : decode cX11_goldenOf 53 = .ok (.lmul, 1) := by decide +kernel
theorem dX11_goldenOf_54 : decode cX11_goldenOf 54 = .ok (.l2i, 1) := by decide +kernel
theorem dX11_goldenOf_55 : decode cX11_goldenOf 55 = .ok (.iload_n 3, 1) := by decide +kernel
theorem dX11_goldenOf_56 : decode cX11_goldenOf 56 = .ok (.ifCond .eq 7, 3) := by decide +kernel
theorem dX11_goldenOf_59 : decode cX11_goldenOf 59 = .ok (.iconst 1, 1) := by decide +kernel
theorem dX11_goldenOf_60 : decode cX11_goldenOf 60 = .ok (.goto 4, 3) := by decide +kernel
theorem dX11_goldenOf_63 : decode cX11_goldenOf 63 = .ok (.iconst 0, 1) := by decide +kernel
theorem dX11_goldenOf_64 : decode cX11_goldenOf 64 = .ok (.iadd, 1) := by decide +kernel
theorem dX11_goldenOf_65 : decode cX11_goldenOf 65 = .ok (.ireturn, 1) := by decide +kernel
theorem dX11_goldenPartner_0 : decode cX11_goldenPartner 0 = .ok (.aload_n 0, 1) := by decide +kernel
theorem dX11_goldenPartner_1 : decode cX11_goldenPartner 1 = .ok (.iconst 0, 1) := by decide +kernel
theorem dX11_goldenPartner_2 : decode cX11_goldenPartner 2 = .ok (.putfield 67, 3) := by decide +kernel
theorem dX11_goldenPartner_5 : decode cX11_goldenPartner 5 = .ok (.aload_n 0, 1) := by decide +kernel
theorem dX11_goldenPartner_6 : decode cX11_goldenPartner 6 = .ok (.iload_n 1, 1) := by decide +kernel
theorem dX11_goldenPartner_7 : decode cX11_goldenPartner 7 = .ok (.invokevirtual 427, 3) := by decide +kernel
theorem dX11_goldenPartner_10 : decode cX11_goldenPartner 10 = .ok (.ifCond .ne 15, 3) := by decide +kernel
theorem dX11_goldenPartner_13 : decode cX11_goldenPartner 13 = .ok (.aload_n 0, 1) := by decide +kernel
theorem dX11_goldenPartner_14 : decode cX11_goldenPartner 14 = .ok (.iload_n 2, 1) := by decide +kernel
theorem dX11_goldenPartner_15 : decode cX11_goldenPartner 15 = .ok (.iconst 1, 1) := by decide +kernel
theorem dX11_goldenPartner_16 : decode cX11_goldenPartner 16 = .ok (.ldc_w 434, 3) := by decide +kernel
theorem dX11_goldenPartner_19 : decode cX11_goldenPartner 19 = .ok (.invokevirtual 431, 3) := by decide +kernel
theorem dX11_goldenPartner_22 : decode cX11_goldenPartner 22 = .ok (.ifCond .eq 5, 3) := by decide +kernel
theorem dX11_goldenPartner_25 : decode cX11_goldenPartner 25 = .ok (.lconst 0, 1) := by decide +kernel
theorem dX11_goldenPartner_26 : decode cX11_goldenPartner 26 = .ok (.lreturn, 1) := by decide +kernel
theorem dX11_goldenPartner_27 : decode cX11_goldenPartner 27 = .ok (.iload_n 1, 1) := by decide +kernel
theorem dX11_goldenPartner_28 : decode cX11_goldenPartner 28 = .ok (.iload_n 2, 1) := by decide +kernel
theorem dX11_goldenPartner_29 : decode cX11_goldenPartner 29 = .ok (.i2l, 1) := by decide +kernel
theorem dX11_goldenPartner_30 : decode cX11_goldenPartner 30 = .ok (.iconst 0, 1) := by decide +kernel
theorem dX11_goldenPartner_31 : decode cX11_goldenPartner 31 = .ok (.invokestatic 435, 3) := by decide +kernel
theorem dX11_goldenPartner_34 : decode cX11_goldenPartner 34 = .ok (.ifCond .ne 7, 3) := by decide +kernel
theorem dX11_goldenPartner_37 : decode cX11_goldenPartner 37 = .ok (.iconst 1, 1) := by decide +kernel
theorem dX11_goldenPartner_38 : decode cX11_goldenPartner 38 = .ok (.goto 4, 3) := by decide +kernel
theorem dX11_goldenPartner_41 : decode cX11_goldenPartner 41 = .ok (.iconst 0, 1) := by decide +kernel
theorem dX11_goldenPartner_42 : decode cX11_goldenPartner 42 = .ok (.istore_n 3, 1) := by decide +kernel
theorem dX11_goldenPartner_43 : decode cX11_goldenPartner 43 = .ok (.iload_n 1, 1) := by decide +kernel
theorem dX11_goldenPartner_44 : decode cX11_goldenPartner 44 = .ok (.iload_n 2, 1) := by decide +kernel
theorem dX11_goldenPartner_45 : decode cX11_goldenPartner 45 = .ok (.i2l, 1) := by decide +kernel
theorem dX11_goldenPartner_46 : decode cX11_goldenPartner 46 = .ok (.iload_n 3, 1) := by decide +kernel
theorem dX11_goldenPartner_47 : decode cX11_goldenPartner 47 = .ok (.invokestatic 163, 3) := by decide +kernel
theorem dX11_goldenPartner_50 : decode cX11_goldenPartner 50 = .ok (.lstore 4, 2) := by decide +kernel
theorem dX11_goldenPartner_52 : decode cX11_goldenPartner 52 = .ok (.iload_n 3, 1) := by decide +kernel
theorem dX11_goldenPartner_53 : decode cX11_goldenPartner 53 = .ok (.ifCond .eq 12, 3) := by decide +kernel
theorem dX11_goldenPartner_56 : decode cX11_goldenPartner 56 = .ok (.iload_n 1, 1) := by decide +kernel
theorem dX11_goldenPartner_57 : decode cX11_goldenPartner 57 = .ok (.lload 4, 2) := by decide +kernel
theorem dX11_goldenPartner_59 : decode cX11_goldenPartner 59 = .ok (.invokestatic 156, 3) := by decide +kernel
theorem dX11_goldenPartner_62 : decode cX11_goldenPartner 62 = .ok (.goto 9, 3) := by decide +kernel
theorem dX11_goldenPartner_65 : decode cX11_goldenPartner 65 = .ok (.iload_n 1, 1) := by decide +kernel
theorem dX11_goldenPartner_66 : decode cX11_goldenPartner 66 = .ok (.lload 4, 2) := by decide +kernel
theorem dX11_goldenPartner_68 : decode cX11_goldenPartner 68 = .ok (.invokestatic 160, 3) := by decide +kernel
theorem dX11_goldenPartner_71 : decode cX11_goldenPartner 71 = .ok (.lreturn, 1) := by decide +kernel
theorem dX11_goldenMany_0 : decode cX11_goldenMany 0 = .ok (.aload_n 0, 1) := by decide +kernel
theorem dX11_goldenMany_1 : decode cX11_goldenMany 1 = .ok (.iconst 0, 1) := by decide +kernel
theorem dX11_goldenMany_2 : decode cX11_goldenMany 2 = .ok (.putfield 67, 3) := by decide +kernel
theorem dX11_goldenMany_5 : decode cX11_goldenMany 5 = .ok (.aload_n 0, 1) := by decide +kernel
theorem dX11_goldenMany_6 : decode cX11_goldenMany 6 = .ok (.iload_n 1, 1) := by decide +kernel
theorem dX11_goldenMany_7 : decode cX11_goldenMany 7 = .ok (.invokevirtual 427, 3) := by decide +kernel
theorem dX11_goldenMany_10 : decode cX11_goldenMany 10 = .ok (.ifCond .ne 15, 3) := by decide +kernel
theorem dX11_goldenMany_13 : decode cX11_goldenMany 13 = .ok (.aload_n 0, 1) := by decide +kernel
theorem dX11_goldenMany_14 : decode cX11_goldenMany 14 = .ok (.iload_n 2, 1) := by decide +kernel
theorem dX11_goldenMany_15 : decode cX11_goldenMany 15 = .ok (.iconst 0, 1) := by decide +kernel
theorem dX11_goldenMany_16 : decode cX11_goldenMany 16 = .ok (.ldc_w 434, 3) := by decide +kernel
theorem dX11_goldenMany_19 : decode cX11_goldenMany 19 = .ok (.invokevirtual 431, 3) := by decide +kernel
theorem dX11_goldenMany_22 : decode cX11_goldenMany 22 = .ok (.ifCond .eq 7, 3) := by decide +kernel
theorem dX11_goldenMany_25 : decode cX11_goldenMany 25 = .ok (.iconst 0, 1) := by decide +kernel
theorem dX11_goldenMany_26 : decode cX11_goldenMany 26 = .ok (.goto 11, 3) := by decide +kernel
theorem dX11_goldenMany_29 : decode cX11_goldenMany 29 = .ok (.iload_n 1, 1) := by decide +kernel
theorem dX11_goldenMany_30 : decode cX11_goldenMany 30 = .ok (.iload_n 2, 1) := by decide +kernel
theorem dX11_goldenMany_31 : decode cX11_goldenMany 31 = .ok (.i2l, 1) := by decide +kernel
theorem dX11_goldenMany_32 : decode cX11_goldenMany 32 = .ok (.iconst 1, 1) := by decide +kernel
theorem dX11_goldenMany_33 : decode cX11_goldenMany 33 = .ok (.invokestatic 163, 3) := by decide +kernel
theorem dX11_goldenMany_36 : decode cX11_goldenMany 36 = .ok (.l2i, 1) := by decide +kernel
theorem dX11_goldenMany_37 : decode cX11_goldenMany 37 = .ok (.ireturn, 1) := by decide +kernel
theorem dX11_summand_0 : decode cX11_summand 0 = .ok (.aload_n 0, 1) := by decide +kernel
theorem dX11_summand_1 : decode cX11_summand 1 = .ok (.iconst 0, 1) := by decide +kernel
theorem dX11_summand_2 : decode cX11_summand 2 = .ok (.putfield 67, 3) := by decide +kernel
theorem dX11_summand_5 : decode cX11_summand 5 = .ok (.aload_n 0, 1) := by decide +kernel
theorem dX11_summand_6 : decode cX11_summand 6 = .ok (.iload_n 1, 1) := by decide +kernel
theorem dX11_summand_7 : decode cX11_summand 7 = .ok (.iconst 1, 1) := by decide +kernel
theorem dX11_summand_8 : decode cX11_summand 8 = .ok (.ldc_w 434, 3) := by decide +kernel
theorem dX11_summand_11 : decode cX11_summand 11 = .ok (.invokevirtual 431, 3) := by decide +kernel
theorem dX11_summand_14 : decode cX11_summand 14 = .ok (.ifCond .eq 5, 3) := by decide +kernel
theorem dX11_summand_17 : decode cX11_summand 17 = .ok (.iconst 0, 1) := by decide +kernel
theorem dX11_summand_18 : decode cX11_summand 18 = .ok (.ireturn, 1) := by decide +kernel
theorem dX11_summand_19 : decode cX11_summand 19 = .ok (.iload_n 2, 1) := by decide +kernel
theorem dX11_summand_20 : decode cX11_summand 20 = .ok (.ifCond .ge 7, 3) := by decide +kernel
theorem dX11_summand_23 : decode cX11_summand 23 = .ok (.iconst (-1), 1) := by decide +kernel
theorem dX11_summand_24 : decode cX11_summand 24 = .ok (.goto 9, 3) := by decide +kernel
theorem dX11_summand_27 : decode cX11_summand 27 = .ok (.aload_n 0, 1) := by decide +kernel
theorem dX11_summand_28 : decode cX11_summand 28 = .ok (.iload_n 1, 1) := by decide +kernel
theorem dX11_summand_29 : decode cX11_summand 29 = .ok (.iload_n 2, 1) := by decide +kernel
theorem dX11_summand_30 : decode cX11_summand 30 = .ok (.invokevirtual 439, 3) := by decide +kernel
theorem dX11_summand_33 : decode cX11_summand 33 = .ok (.ireturn, 1) := by decide +kernel
theorem dX11_leastPlace_0 : decode cX11_leastPlace 0 = .ok (.aload_n 0, 1) := by decide +kernel
theorem dX11_leastPlace_1 : decode cX11_leastPlace 1 = .ok (.iconst 0, 1) := by decide +kernel
theorem dX11_leastPlace_2 : decode cX11_leastPlace 2 = .ok (.putfield 67, 3) := by decide +kernel
theorem dX11_leastPlace_5 : decode cX11_leastPlace 5 = .ok (.aload_n 0, 1) := by decide +kernel
theorem dX11_leastPlace_6 : decode cX11_leastPlace 6 = .ok (.iload_n 1, 1) := by decide +kernel
theorem dX11_leastPlace_7 : decode cX11_leastPlace 7 = .ok (.iconst 1, 1) := by decide +kernel
theorem dX11_leastPlace_8 : decode cX11_leastPlace 8 = .ok (.ldc_w 434, 3) := by decide +kernel
theorem dX11_leastPlace_11 : decode cX11_leastPlace 11 = .ok (.invokevirtual 431, 3) := by decide +kernel
theorem dX11_leastPlace_14 : decode cX11_leastPlace 14 = .ok (.ifCond .eq 5, 3) := by decide +kernel
theorem dX11_leastPlace_17 : decode cX11_leastPlace 17 = .ok (.iconst 0, 1) := by decide +kernel
theorem dX11_leastPlace_18 : decode cX11_leastPlace 18 = .ok (.ireturn, 1) := by decide +kernel
theorem dX11_leastPlace_19 : decode cX11_leastPlace 19 = .ok (.iconst 0, 1) := by decide +kernel
theorem dX11_leastPlace_20 : decode cX11_leastPlace 20 = .ok (.istore_n 2, 1) := by decide +kernel
theorem dX11_leastPlace_21 : decode cX11_leastPlace 21 = .ok (.aload_n 0, 1) := by decide +kernel
theorem dX11_leastPlace_22 : decode cX11_leastPlace 22 = .ok (.iload_n 1, 1) := by decide +kernel
theorem dX11_leastPlace_23 : decode cX11_leastPlace 23 = .ok (.iload_n 2, 1) := by decide +kernel
theorem dX11_leastPlace_24 : decode cX11_leastPlace 24 = .ok (.iconst 1, 1) := by decide +kernel
theorem dX11_leastPlace_25 : decode cX11_leastPlace 25 = .ok (.iadd, 1) := by decide +kernel
theorem dX11_leastPlace_26 : decode cX11_leastPlace 26 = .ok (.invokevirtual 439, 3) := by decide +kernel
theorem dX11_leastPlace_29 : decode cX11_leastPlace 29 = .ok (.iconst (-1), 1) := by decide +kernel
theorem dX11_leastPlace_30 : decode cX11_leastPlace 30 = .ok (.if_icmp .eq 9, 3) := by decide +kernel
theorem dX11_leastPlace_33 : decode cX11_leastPlace 33 = .ok (.iinc 2 1, 3) := by decide +kernel
theorem dX11_leastPlace_36 : decode cX11_leastPlace 36 = .ok (.goto (-15), 3) := by decide +kernel
theorem dX11_leastPlace_39 : decode cX11_leastPlace 39 = .ok (.aload_n 0, 1) := by decide +kernel
theorem dX11_leastPlace_40 : decode cX11_leastPlace 40 = .ok (.iload_n 1, 1) := by decide +kernel
theorem dX11_leastPlace_41 : decode cX11_leastPlace 41 = .ok (.iload_n 2, 1) := by decide +kernel
theorem dX11_leastPlace_42 : decode cX11_leastPlace 42 = .ok (.invokevirtual 439, 3) := by decide +kernel
theorem dX11_leastPlace_45 : decode cX11_leastPlace 45 = .ok (.invokestatic 442, 3) := by decide +kernel
theorem dX11_leastPlace_48 : decode cX11_leastPlace 48 = .ok (.ireturn, 1) := by decide +kernel
theorem dX11_gap_0 : decode cX11_gap 0 = .ok (.aload_n 0, 1) := by decide +kernel
theorem dX11_gap_1 : decode cX11_gap 1 = .ok (.iconst 0, 1) := by decide +kernel
theorem dX11_gap_2 : decode cX11_gap 2 = .ok (.putfield 67, 3) := by decide +kernel
theorem dX11_gap_5 : decode cX11_gap 5 = .ok (.aload_n 0, 1) := by decide +kernel
theorem dX11_gap_6 : decode cX11_gap 6 = .ok (.iload_n 1, 1) := by decide +kernel
theorem dX11_gap_7 : decode cX11_gap 7 = .ok (.invokevirtual 402, 3) := by decide +kernel
theorem dX11_gap_10 : decode cX11_gap 10 = .ok (.ifCond .eq 5, 3) := by decide +kernel
theorem dX11_gap_13 : decode cX11_gap 13 = .ok (.iconst 0, 1) := by decide +kernel
theorem dX11_gap_14 : decode cX11_gap 14 = .ok (.ireturn, 1) := by decide +kernel
theorem dX11_gap_15 : decode cX11_gap 15 = .ok (.aload_n 0, 1) := by decide +kernel
theorem dX11_gap_16 : decode cX11_gap 16 = .ok (.iload_n 1, 1) := by decide +kernel
theorem dX11_gap_17 : decode cX11_gap 17 = .ok (.invokevirtual 405, 3) := by decide +kernel
theorem dX11_gap_20 : decode cX11_gap 20 = .ok (.ifCond .ne 5, 3) := by decide +kernel
theorem dX11_gap_23 : decode cX11_gap 23 = .ok (.iconst (-1), 1) := by decide +kernel
theorem dX11_gap_24 : decode cX11_gap 24 = .ok (.ireturn, 1) := by decide +kernel
theorem dX11_gap_25 : decode cX11_gap 25 = .ok (.aload_n 0, 1) := by decide +kernel
theorem dX11_gap_26 : decode cX11_gap 26 = .ok (.iload_n 1, 1) := by decide +kernel
theorem dX11_gap_27 : decode cX11_gap 27 = .ok (.invokevirtual 143, 3) := by decide +kernel
theorem dX11_gap_30 : decode cX11_gap 30 = .ok (.iconst 0, 1) := by decide +kernel
theorem dX11_gap_31 : decode cX11_gap 31 = .ok (.istore_n 2, 1) := by decide +kernel
theorem dX11_gap_32 : decode cX11_gap 32 = .ok (.iconst 0, 1) := by decide +kernel
theorem dX11_gap_33 : decode cX11_gap 33 = .ok (.istore_n 3, 1) := by decide +kernel
theorem dX11_gap_34 : decode cX11_gap 34 = .ok (.iload_n 3, 1) := by decide +kernel
theorem dX11_gap_35 : decode cX11_gap 35 = .ok (.sipush 1681, 3) := by decide +kernel
theorem dX11_gap_38 : decode cX11_gap 38 = .ok (.if_icmp .ge 59, 3) := by decide +kernel
theorem dX11_gap_41 : decode cX11_gap 41 = .ok (.iload_n 2, 1) := by decide +kernel
theorem dX11_gap_42 : decode cX11_gap 42 = .ok (.aload_n 0, 1) := by decide +kernel
theorem dX11_gap_43 : decode cX11_gap 43 = .ok (.getfield 38, 3) := by decide +kernel
theorem dX11_gap_46 : decode cX11_gap 46 = .ok (.sipush 1681, 3) := by decide +kernel
theorem dX11_gap_49 : decode cX11_gap 49 = .ok (.iload_n 1, 1) := by decide +kernel
theorem dX11_gap_50 : decode cX11_gap 50 = .ok (.imul, 1) := by decide +kernel
theorem dX11_gap_51 : decode cX11_gap 51 = .ok (.iload_n 3, 1) := by decide +kernel
theorem dX11_gap_52 : decode cX11_gap 52 = .ok (.iadd, 1) := by decide +kernel
theorem dX11_gap_53 : decode cX11_gap 53 = .ok (.iaload, 1) := by decide +kernel
theorem dX11_gap_54 : decode cX11_gap 54 = .ok (.ifCond .ne 7, 3) := by decide +kernel
theorem dX11_gap_57 : decode cX11_gap 57 = .ok (.iconst 1, 1) := by decide +kernel
theorem dX11_gap_58 : decode cX11_gap 58 = .ok (.goto 4, 3) := by decide +kernel
theorem dX11_gap_61 : decode cX11_gap 61 = .ok (.iconst 0, 1) := by decide +kernel
theorem dX11_gap_62 : decode cX11_gap 62 = .ok (.aload_n 0, 1) := by decide +kernel
theorem dX11_gap_63 : decode cX11_gap 63 = .ok (.aload_n 0, 1) := by decide +kernel
theorem dX11_gap_64 : decode cX11_gap 64 = .ok (.iload_n 1, 1) := by decide +kernel
theorem dX11_gap_65 : decode cX11_gap 65 = .ok (.bipush 18, 2) := by decide +kernel
theorem dX11_gap_67 : decode cX11_gap 67 = .ok (.invokevirtual 85, 3) := by decide +kernel
theorem dX11_gap_70 : decode cX11_gap 70 = .ok (.iload_n 3, 1) := by decide +kernel
theorem dX11_gap_71 : decode cX11_gap 71 = .ok (.bipush 41, 2) := by decide +kernel
theorem dX11_gap_73 : decode cX11_gap 73 = .ok (.idiv, 1) := by decide +kernel
theorem dX11_gap_74 : decode cX11_gap 74 = .ok (.iload_n 3, 1) := by decide +kernel
theorem dX11_gap_75 : decode cX11_gap 75 = .ok (.bipush 41, 2) := by decide +kernel
theorem dX11_gap_77 : decode cX11_gap 77 = .ok (.irem, 1) := by decide +kernel
theorem dX11_gap_78 : decode cX11_gap 78 = .ok (.invokevirtual 445, 3) := by decide +kernel
theorem dX11_gap_81 : decode cX11_gap 81 = .ok (.if_icmp .ne 7, 3) := by decide +kernel
theorem dX11_gap_84 : decode cX11_gap 84 = .ok (.iconst 0, 1) := by decide +kernel
theorem dX11_gap_85 : decode cX11_gap 85 = .ok (.goto 4, 3) := by decide +kernel
theorem dX11_gap_88 : decode cX11_gap 88 = .ok (.iconst 1, 1) := by decide +kernel
theorem dX11_gap_89 : decode cX11_gap 89 = .ok (.iadd, 1) := by decide +kernel
theorem dX11_gap_90 : decode cX11_gap 90 = .ok (.istore_n 2, 1) := by decide +kernel
theorem dX11_gap_91 : decode cX11_gap 91 = .ok (.iinc 3 1, 3) := by decide +kernel
theorem dX11_gap_94 : decode cX11_gap 94 = .ok (.goto (-60), 3) := by decide +kernel
theorem dX11_gap_97 : decode cX11_gap 97 = .ok (.iload_n 2, 1) := by decide +kernel
theorem dX11_gap_98 : decode cX11_gap 98 = .ok (.ireturn, 1) := by decide +kernel
theorem dX11_advice_0 : decode cX11_advice 0 = .ok (.aload_n 0, 1) := by decide +kernel
theorem dX11_advice_1 : decode cX11_advice 1 = .ok (.iconst 0, 1) := by decide +kernel
theorem dX11_advice_2 : decode cX11_advice 2 = .ok (.putfield 67, 3) := by decide +kernel
theorem dX11_advice_5 : decode cX11_advice 5 = .ok (.aload_n 0, 1) := by decide +kernel
theorem dX11_advice_6 : decode cX11_advice 6 = .ok (.iload_n 1, 1) := by decide +kernel
theorem dX11_advice_7 : decode cX11_advice 7 = .ok (.iconst 0, 1) := by decide +kernel
theorem dX11_advice_8 : decode cX11_advice 8 = .ok (.iconst 3, 1) := by decide +kernel
theorem dX11_advice_9 : decode cX11_advice 9 = .ok (.invokestatic 77, 3) := by decide +kernel
theorem dX11_advice_12 : decode cX11_advice 12 = .ok (.ifCond .ne 7, 3) := by decide +kernel
theorem dX11_advice_15 : decode cX11_advice 15 = .ok (.iconst 1, 1) := by decide +kernel
theorem dX11_advice_16 : decode cX11_advice 16 = .ok (.goto 4, 3) := by decide +kernel
theorem dX11_advice_19 : decode cX11_advice 19 = .ok (.iconst 0, 1) := by decide +kernel
theorem dX11_advice_20 : decode cX11_advice 20 = .ok (.iconst 1, 1) := by decide +kernel
theorem dX11_advice_21 : decode cX11_advice 21 = .ok (.invokevirtual 81, 3) := by decide +kernel
theorem dX11_advice_24 : decode cX11_advice 24 = .ok (.ifCond .eq 5, 3) := by decide +kernel
theorem dX11_advice_27 : decode cX11_advice 27 = .ok (.iconst 0, 1) := by decide +kernel
theorem dX11_advice_28 : decode cX11_advice 28 = .ok (.ireturn, 1) := by decide +kernel
theorem dX11_advice_29 : decode cX11_advice 29 = .ok (.aload_n 0, 1) := by decide +kernel
theorem dX11_advice_30 : decode cX11_advice 30 = .ok (.invokevirtual 389, 3) := by decide +kernel
theorem dX11_advice_33 : decode cX11_advice 33 = .ok (.aload_n 0, 1) := by decide +kernel
theorem dX11_advice_34 : decode cX11_advice 34 = .ok (.invokevirtual 206, 3) := by decide +kernel
theorem dX11_advice_37 : decode cX11_advice 37 = .ok (.istore_n 2, 1) := by decide +kernel
theorem dX11_advice_38 : decode cX11_advice 38 = .ok (.aload_n 0, 1) := by decide +kernel
theorem dX11_advice_39 : decode cX11_advice 39 = .ok (.invokevirtual 247, 3) := by decide +kernel
theorem dX11_advice_42 : decode cX11_advice 42 = .ok (.ifCond .ne 5, 3) := by decide +kernel
theorem dX11_advice_45 : decode cX11_advice 45 = .ok (.iconst (-1), 1) := by decide +kernel
theorem dX11_advice_46 : decode cX11_advice 46 = .ok (.ireturn, 1) := by decide +kernel
theorem dX11_advice_47 : decode cX11_advice 47 = .ok (.iload_n 1, 1) := by decide +kernel
theorem dX11_advice_48 : decode cX11_advice 48 = .ok (.ifCond .ne 10, 3) := by decide +kernel
theorem dX11_advice_51 : decode cX11_advice 51 = .ok (.aload_n 0, 1) := by decide +kernel
theorem dX11_advice_52 : decode cX11_advice 52 = .ok (.getfield 216, 3) := by decide +kernel
theorem dX11_advice_55 : decode cX11_advice 55 = .ok (.goto 36, 3) := by decide +kernel
theorem dX11_advice_58 : decode cX11_advice 58 = .ok (.iload_n 1, 1) := by decide +kernel
theorem dX11_advice_59 : decode cX11_advice 59 = .ok (.iconst 1, 1) := by decide +kernel
theorem dX11_advice_60 : decode cX11_advice 60 = .ok (.if_icmp .ne 10, 3) := by decide +kernel
theorem dX11_advice_63 : decode cX11_advice 63 = .ok (.aload_n 0, 1) := by decide +kernel
theorem dX11_advice_64 : decode cX11_advice 64 = .ok (.getfield 219, 3) := by decide +kernel
theorem dX11_advice_67 : decode cX11_advice 67 = .ok (.goto 24, 3) := by decide +kernel
theorem dX11_advice_70 : decode cX11_advice 70 = .ok (.iload_n 1, 1) := by decide +kernel
theorem dX11_advice_71 : decode cX11_advice 71 = .ok (.iconst 2, 1) := by decide +kernel
theorem dX11_advice_72 : decode cX11_advice 72 = .ok (.if_icmp .ne 10, 3) := by decide +kernel
theorem dX11_advice_75 : decode cX11_advice 75 = .ok (.aload_n 0, 1) := by decide +kernel
theorem dX11_advice_76 : decode cX11_advice 76 = .ok (.getfield 222, 3) := by decide +kernel
theorem dX11_advice_79 : decode cX11_advice 79 = .ok (.goto 12, 3) := by decide +kernel
theorem dX11_advice_82 : decode cX11_advice 82 = .ok (.iload_n 2, 1) := by decide +kernel
theorem dX11_advice_83 : decode cX11_advice 83 = .ok (.ifCond .eq 7, 3) := by decide +kernel
theorem dX11_advice_86 : decode cX11_advice 86 = .ok (.iconst 1, 1) := by decide +kernel
theorem dX11_advice_87 : decode cX11_advice 87 = .ok (.goto 4, 3) := by decide +kernel
theorem dX11_advice_90 : decode cX11_advice 90 = .ok (.iconst 0, 1) := by decide +kernel
theorem dX11_advice_91 : decode cX11_advice 91 = .ok (.ireturn, 1) := by decide +kernel
theorem dX11_turnsIn_0 : decode cX11_turnsIn 0 = .ok (.aload_n 0, 1) := by decide +kernel
theorem dX11_turnsIn_1 : decode cX11_turnsIn 1 = .ok (.iconst 0, 1) := by decide +kernel
theorem dX11_turnsIn_2 : decode cX11_turnsIn 2 = .ok (.putfield 67, 3) := by decide +kernel
theorem dX11_turnsIn_5 : decode cX11_turnsIn 5 = .ok (.aload_n 0, 1) := by decide +kernel
theorem dX11_turnsIn_6 : decode cX11_turnsIn 6 = .ok (.invokevirtual 389, 3) := by decide +kernel
theorem dX11_turnsIn_9 : decode cX11_turnsIn 9 = .ok (.aload_n 0, 1) := by decide +kernel
theorem dX11_turnsIn_10 : decode cX11_turnsIn 10 = .ok (.getfield 7, 3) := by decide +kernel
theorem dX11_turnsIn_13 : decode cX11_turnsIn 13 = .ok (.iconst 0, 1) := by decide +kernel
theorem dX11_turnsIn_14 : decode cX11_turnsIn 14 = .ok (.aload_n 0, 1) := by decide +kernel
theorem dX11_turnsIn_15 : decode cX11_turnsIn 15 = .ok (.getfield 16, 3) := by decide +kernel
theorem dX11_turnsIn_18 : decode cX11_turnsIn 18 = .ok (.iconst 0, 1) := by decide +kernel
theorem dX11_turnsIn_19 : decode cX11_turnsIn 19 = .ok (.invokestatic 73, 3) := by decide +kernel
theorem dX11_turnsIn_22 : decode cX11_turnsIn 22 = .ok (.aload_n 0, 1) := by decide +kernel
theorem dX11_turnsIn_23 : decode cX11_turnsIn 23 = .ok (.sipush 600, 3) := by decide +kernel
theorem dX11_turnsIn_26 : decode cX11_turnsIn 26 = .ok (.invokevirtual 448, 3) := by decide +kernel
theorem dX11_turnsIn_29 : decode cX11_turnsIn 29 = .ok (.istore_n 1, 1) := by decide +kernel
theorem dX11_turnsIn_30 : decode cX11_turnsIn 30 = .ok (.aload_n 0, 1) := by decide +kernel
theorem dX11_turnsIn_31 : decode cX11_turnsIn 31 = .ok (.getfield 16, 3) := by decide +kernel
theorem dX11_turnsIn_34 : decode cX11_turnsIn 34 = .ok (.iconst 0, 1) := by decide +kernel
theorem dX11_turnsIn_35 : decode cX11_turnsIn 35 = .ok (.aload_n 0, 1) := by decide +kernel
theorem dX11_turnsIn_36 : decode cX11_turnsIn 36 = .ok (.getfield 7, 3) := by decide +kernel
theorem dX11_turnsIn_39 : decode cX11_turnsIn 39 = .ok (.iconst 0, 1) := by decide +kernel
theorem dX11_turnsIn_40 : decode cX11_turnsIn 40 = .ok (.invokestatic 73, 3) := by decide +kernel
theorem dX11_turnsIn_43 : decode cX11_turnsIn 43 = .ok (.iload_n 1, 1) := by decide +kernel
theorem dX11_turnsIn_44 : decode cX11_turnsIn 44 = .ok (.ireturn, 1) := by decide +kernel
theorem dX11_winner_0 : decode cX11_winner 0 = .ok (.aload_n 0, 1) := by decide +kernel
theorem dX11_winner_1 : decode cX11_winner 1 = .ok (.iconst 0, 1) := by decide +kernel
theorem dX11_winner_2 : decode cX11_winner 2 = .ok (.putfield 67, 3) := by decide +kernel
theorem dX11_winner_5 : decode cX11_winner 5 = .ok (.aload_n 0, 1) := by decide +kernel
theorem dX11_winner_6 : decode cX11_winner 6 = .ok (.invokevirtual 389, 3) := by decide +kernel
theorem dX11_winner_9 : decode cX11_winner 9 = .ok (.aload_n 0, 1) := by decide +kernel
theorem dX11_winner_10 : decode cX11_winner 10 = .ok (.getfield 7, 3) := by decide +kernel
theorem dX11_winner_13 : decode cX11_winner 13 = .ok (.iconst 0, 1) := by decide +kernel
theorem dX11_winner_14 : decode cX11_winner 14 = .ok (.aload_n 0, 1) := by decide +kernel
theorem dX11_winner_15 : decode cX11_winner 15 = .ok (.getfield 16, 3) := by decide +kernel
theorem dX11_winner_18 : decode cX11_winner 18 = .ok (.iconst 0, 1) := by decide +kernel
theorem dX11_winner_19 : decode cX11_winner 19 = .ok (.invokestatic 73, 3) := by decide +kernel
theorem dX11_winner_22 : decode cX11_winner 22 = .ok (.aload_n 0, 1) := by decide +kernel
theorem dX11_winner_23 : decode cX11_winner 23 = .ok (.sipush 600, 3) := by decide +kernel
theorem dX11_winner_26 : decode cX11_winner 26 = .ok (.invokevirtual 448, 3) := by decide +kernel
theorem dX11_winner_29 : decode cX11_winner 29 = .ok (.istore_n 1, 1) := by decide +kernel
theorem dX11_winner_30 : decode cX11_winner 30 = .ok (.iconst 1, 1) := by decide +kernel
theorem dX11_winner_31 : decode cX11_winner 31 = .ok (.aload_n 0, 1) := by decide +kernel
theorem dX11_winner_32 : decode cX11_winner 32 = .ok (.getfield 7, 3) := by decide +kernel
theorem dX11_winner_35 : decode cX11_winner 35 = .ok (.iconst 3, 1) := by decide +kernel
theorem dX11_winner_36 : decode cX11_winner 36 = .ok (.iaload, 1) := by decide +kernel
theorem dX11_winner_37 : decode cX11_winner 37 = .ok (.isub, 1) := by decide +kernel
theorem dX11_winner_38 : decode cX11_winner 38 = .ok (.istore_n 2, 1) := by decide +kernel
theorem dX11_winner_39 : decode cX11_winner 39 = .ok (.aload_n 0, 1) := by decide +kernel
theorem dX11_winner_40 : decode cX11_winner 40 = .ok (.getfield 16, 3) := by decide +kernel
theorem dX11_winner_43 : decode cX11_winner 43 = .ok (.iconst 0, 1) := by decide +kernel
theorem dX11_winner_44 : decode cX11_winner 44 = .ok (.aload_n 0, 1) := by decide +kernel
theorem dX11_winner_45 : decode cX11_winner 45 = .ok (.getfield 7, 3) := by decide +kernel
theorem dX11_winner_48 : decode cX11_winner 48 = .ok (.iconst 0, 1) := by decide +kernel
theorem dX11_winner_49 : decode cX11_winner 49 = .ok (.invokestatic 73, 3) := by decide +kernel
theorem dX11_winner_52 : decode cX11_winner 52 = .ok (.iload_n 2, 1) := by decide +kernel
theorem dX11_winner_53 : decode cX11_winner 53 = .ok (.ireturn, 1) := by decide +kernel
theorem dX11_totalBehind_0 : decode cX11_totalBehind 0 = .ok (.aload_n 0, 1) := by decide +kernel
theorem dX11_totalBehind_1 : decode cX11_totalBehind 1 = .ok (.iconst 0, 1) := by decide +kernel
theorem dX11_totalBehind_2 : decode cX11_totalBehind 2 = .ok (.putfield 67, 3) := by decide +kernel
theorem dX11_totalBehind_5 : decode cX11_totalBehind 5 = .ok (.aload_n 0, 1) := by decide +kernel
theorem dX11_totalBehind_6 : decode cX11_totalBehind 6 = .ok (.iload_n 1, 1) := by decide +kernel
theorem dX11_totalBehind_7 : decode cX11_totalBehind 7 = .ok (.invokevirtual 418, 3) := by decide +kernel
theorem dX11_totalBehind_10 : decode cX11_totalBehind 10 = .ok (.ifCond .eq 5, 3) := by decide +kernel
theorem dX11_totalBehind_13 : decode cX11_totalBehind 13 = .ok (.iconst 0, 1) := by decide +kernel
theorem dX11_totalBehind_14 : decode cX11_totalBehind 14 = .ok (.ireturn, 1) := by decide +kernel
theorem dX11_totalBehind_15 : decode cX11_totalBehind 15 = .ok (.aload_n 0, 1) := by decide +kernel
theorem dX11_totalBehind_16 : decode cX11_totalBehind 16 = .ok (.iload_n 1, 1) := by decide +kernel
theorem dX11_totalBehind_17 : decode cX11_totalBehind 17 = .ok (.iload_n 2, 1) := by decide +kernel
theorem dX11_totalBehind_18 : decode cX11_totalBehind 18 = .ok (.iload_n 3, 1) := by decide +kernel
theorem dX11_totalBehind_19 : decode cX11_totalBehind 19 = .ok (.invokevirtual 209, 3) := by decide +kernel
theorem dX11_totalBehind_22 : decode cX11_totalBehind 22 = .ok (.ifCond .eq 5, 3) := by decide +kernel
theorem dX11_totalBehind_25 : decode cX11_totalBehind 25 = .ok (.iconst (-1), 1) := by decide +kernel
theorem dX11_totalBehind_26 : decode cX11_totalBehind 26 = .ok (.ireturn, 1) := by decide +kernel
theorem dX11_totalBehind_27 : decode cX11_totalBehind 27 = .ok (.aload_n 0, 1) := by decide +kernel
theorem dX11_totalBehind_28 : decode cX11_totalBehind 28 = .ok (.invokevirtual 389, 3) := by decide +kernel
theorem dX11_totalBehind_31 : decode cX11_totalBehind 31 = .ok (.aload_n 0, 1) := by decide +kernel
theorem dX11_totalBehind_32 : decode cX11_totalBehind 32 = .ok (.invokevirtual 206, 3) := by decide +kernel
theorem dX11_totalBehind_35 : decode cX11_totalBehind 35 = .ok (.aload_n 0, 1) := by decide +kernel
theorem dX11_totalBehind_36 : decode cX11_totalBehind 36 = .ok (.iload_n 1, 1) := by decide +kernel
theorem dX11_totalBehind_37 : decode cX11_totalBehind 37 = .ok (.iconst 0, 1) := by decide +kernel
theorem dX11_totalBehind_38 : decode cX11_totalBehind 38 = .ok (.iconst 0, 1) := by decide +kernel
theorem dX11_totalBehind_39 : decode cX11_totalBehind 39 = .ok (.invokevirtual 197, 3) := by decide +kernel
theorem dX11_totalBehind_42 : decode cX11_totalBehind 42 = .ok (.ixor, 1) := by decide +kernel
theorem dX11_totalBehind_43 : decode cX11_totalBehind 43 = .ok (.aload_n 0, 1) := by decide +kernel
theorem dX11_totalBehind_44 : decode cX11_totalBehind 44 = .ok (.iload_n 1, 1) := by decide +kernel
theorem dX11_totalBehind_45 : decode cX11_totalBehind 45 = .ok (.iload_n 2, 1) := by decide +kernel
theorem dX11_totalBehind_46 : decode cX11_totalBehind 46 = .ok (.iload_n 3, 1) := by decide +kernel
theorem dX11_totalBehind_47 : decode cX11_totalBehind 47 = .ok (.invokevirtual 197, 3) := by decide +kernel
theorem dX11_totalBehind_50 : decode cX11_totalBehind 50 = .ok (.ixor, 1) := by decide +kernel
theorem dX11_totalBehind_51 : decode cX11_totalBehind 51 = .ok (.ireturn, 1) := by decide +kernel
theorem dX11_noMove_0 : decode cX11_noMove 0 = .ok (.aload_n 0, 1) := by decide +kernel
theorem dX11_noMove_1 : decode cX11_noMove 1 = .ok (.iload_n 1, 1) := by decide +kernel
theorem dX11_noMove_2 : decode cX11_noMove 2 = .ok (.iload_n 2, 1) := by decide +kernel
theorem dX11_noMove_3 : decode cX11_noMove 3 = .ok (.invokevirtual 424, 3) := by decide +kernel
theorem dX11_noMove_6 : decode cX11_noMove 6 = .ok (.ifCond .ne 24, 3) := by decide +kernel
theorem dX11_noMove_9 : decode cX11_noMove 9 = .ok (.aload_n 0, 1) := by decide +kernel
theorem dX11_noMove_10 : decode cX11_noMove 10 = .ok (.iload_n 1, 1) := by decide +kernel
theorem dX11_noMove_11 : decode cX11_noMove 11 = .ok (.ifCond .ne 11, 3) := by decide +kernel
theorem dX11_noMove_14 : decode cX11_noMove 14 = .ok (.iload_n 2, 1) := by decide +kernel
theorem dX11_noMove_15 : decode cX11_noMove 15 = .ok (.ifCond .ne 7, 3) := by decide +kernel
theorem dX11_noMove_18 : decode cX11_noMove 18 = .ok (.iconst 1, 1) := by decide +kernel
theorem dX11_noMove_19 : decode cX11_noMove 19 = .ok (.goto 4, 3) := by decide +kernel
theorem dX11_noMove_22 : decode cX11_noMove 22 = .ok (.iconst 0, 1) := by decide +kernel
theorem dX11_noMove_23 : decode cX11_noMove 23 = .ok (.iconst 2, 1) := by decide +kernel
theorem dX11_noMove_24 : decode cX11_noMove 24 = .ok (.invokevirtual 81, 3) := by decide +kernel
theorem dX11_noMove_27 : decode cX11_noMove 27 = .ok (.ifCond .eq 7, 3) := by decide +kernel
theorem dX11_noMove_30 : decode cX11_noMove 30 = .ok (.iconst 1, 1) := by decide +kernel
theorem dX11_noMove_31 : decode cX11_noMove 31 = .ok (.goto 4, 3) := by decide +kernel
theorem dX11_noMove_34 : decode cX11_noMove 34 = .ok (.iconst 0, 1) := by decide +kernel
theorem dX11_noMove_35 : decode cX11_noMove 35 = .ok (.ireturn, 1) := by decide +kernel
theorem dX11_allowsBarred_0 : decode cX11_allowsBarred 0 = .ok (.aload_n 0, 1) := by decide +kernel
theorem dX11_allowsBarred_1 : decode cX11_allowsBarred 1 = .ok (.iload_n 1, 1) := by decide +kernel
theorem dX11_allowsBarred_2 : decode cX11_allowsBarred 2 = .ok (.iload_n 2, 1) := by decide +kernel
theorem dX11_allowsBarred_3 : decode cX11_allowsBarred 3 = .ok (.iload_n 3, 1) := by decide +kernel
theorem dX11_allowsBarred_4 : decode cX11_allowsBarred 4 = .ok (.invokevirtual 106, 3) := by decide +kernel
theorem dX11_allowsBarred_7 : decode cX11_allowsBarred 7 = .ok (.istore 4, 2) := by decide +kernel
theorem dX11_allowsBarred_9 : decode cX11_allowsBarred 9 = .ok (.iload 4, 2) := by decide +kernel
theorem dX11_allowsBarred_11 : decode cX11_allowsBarred 11 = .ok (.ifCond .eq 10, 3) := by decide +kernel
theorem dX11_allowsBarred_14 : decode cX11_allowsBarred 14 = .ok (.iload 4, 2) := by decide +kernel
theorem dX11_allowsBarred_16 : decode cX11_allowsBarred 16 = .ok (.bipush 7, 2) := by decide +kernel
theorem dX11_allowsBarred_18 : decode cX11_allowsBarred 18 = .ok (.if_icmp .ne 7, 3) := by decide +kernel
theorem dX11_allowsBarred_21 : decode cX11_allowsBarred 21 = .ok (.iconst 1, 1) := by decide +kernel
theorem dX11_allowsBarred_22 : decode cX11_allowsBarred 22 = .ok (.goto 4, 3) := by decide +kernel
theorem dX11_allowsBarred_25 : decode cX11_allowsBarred 25 = .ok (.iconst 0, 1) := by decide +kernel
theorem dX11_allowsBarred_26 : decode cX11_allowsBarred 26 = .ok (.ireturn, 1) := by decide +kernel
theorem dX11_changedBy_0 : decode cX11_changedBy 0 = .ok (.aload_n 0, 1) := by decide +kernel
theorem dX11_changedBy_1 : decode cX11_changedBy 1 = .ok (.iconst 0, 1) := by decide +kernel
theorem dX11_changedBy_2 : decode cX11_changedBy 2 = .ok (.putfield 67, 3) := by decide +kernel
theorem dX11_changedBy_5 : decode cX11_changedBy 5 = .ok (.aload_n 0, 1) := by decide +kernel
theorem dX11_changedBy_6 : decode cX11_changedBy 6 = .ok (.iload_n 1, 1) := by decide +kernel
theorem dX11_changedBy_7 : decode cX11_changedBy 7 = .ok (.invokevirtual 402, 3) := by decide +kernel
theorem dX11_changedBy_10 : decode cX11_changedBy 10 = .ok (.ifCond .ne 12, 3) := by decide +kernel
theorem dX11_changedBy_13 : decode cX11_changedBy 13 = .ok (.aload_n 0, 1) := by decide +kernel
theorem dX11_changedBy_14 : decode cX11_changedBy 14 = .ok (.iload_n 2, 1) := by decide +kernel
theorem dX11_changedBy_15 : decode cX11_changedBy 15 = .ok (.iload_n 3, 1) := by decide +kernel
theorem dX11_changedBy_16 : decode cX11_changedBy 16 = .ok (.invokevirtual 451, 3) := by decide +kernel
theorem dX11_changedBy_19 : decode cX11_changedBy 19 = .ok (.ifCond .eq 5, 3) := by decide +kernel
theorem dX11_changedBy_22 : decode cX11_changedBy 22 = .ok (.iconst 0, 1) := by decide +kernel
theorem dX11_changedBy_23 : decode cX11_changedBy 23 = .ok (.ireturn, 1) := by decide +kernel
theorem dX11_changedBy_24 : decode cX11_changedBy 24 = .ok (.aload_n 0, 1) := by decide +kernel
theorem dX11_changedBy_25 : decode cX11_changedBy 25 = .ok (.iload_n 1, 1) := by decide +kernel
theorem dX11_changedBy_26 : decode cX11_changedBy 26 = .ok (.invokevirtual 143, 3) := by decide +kernel
theorem dX11_changedBy_29 : decode cX11_changedBy 29 = .ok (.aload_n 0, 1) := by decide +kernel
theorem dX11_changedBy_30 : decode cX11_changedBy 30 = .ok (.iload_n 1, 1) := by decide +kernel
theorem dX11_changedBy_31 : decode cX11_changedBy 31 = .ok (.invokevirtual 133, 3) := by decide +kernel
theorem dX11_changedBy_34 : decode cX11_changedBy 34 = .ok (.aload_n 0, 1) := by decide +kernel
theorem dX11_changedBy_35 : decode cX11_changedBy 35 = .ok (.getfield 25, 3) := by decide +kernel
theorem dX11_changedBy_38 : decode cX11_changedBy 38 = .ok (.bipush 41, 2) := by decide +kernel
theorem dX11_changedBy_40 : decode cX11_changedBy 40 = .ok (.iload_n 2, 1) := by decide +kernel
theorem dX11_changedBy_41 : decode cX11_changedBy 41 = .ok (.imul, 1) := by decide +kernel
theorem dX11_changedBy_42 : decode cX11_changedBy 42 = .ok (.iload_n 3, 1) := by decide +kernel
theorem dX11_changedBy_43 : decode cX11_changedBy 43 = .ok (.iadd, 1) := by decide +kernel
theorem dX11_changedBy_44 : decode cX11_changedBy 44 = .ok (.aload_n 0, 1) := by decide +kernel
theorem dX11_changedBy_45 : decode cX11_changedBy 45 = .ok (.iload_n 1, 1) := by decide +kernel
theorem dX11_changedBy_46 : decode cX11_changedBy 46 = .ok (.iload_n 2, 1) := by decide +kernel
theorem dX11_changedBy_47 : decode cX11_changedBy 47 = .ok (.iload_n 3, 1) := by decide +kernel
theorem dX11_changedBy_48 : decode cX11_changedBy 48 = .ok (.invokevirtual 102, 3) := by decide +kernel
theorem dX11_changedBy_51 : decode cX11_changedBy 51 = .ok (.iconst (-1), 1) := by decide +kernel
theorem dX11_changedBy_52 : decode cX11_changedBy 52 = .ok (.if_icmp .eq 17, 3) := by decide +kernel
theorem dX11_changedBy_55 : decode cX11_changedBy 55 = .ok (.aload_n 0, 1) := by decide +kernel
theorem dX11_changedBy_56 : decode cX11_changedBy 56 = .ok (.iload_n 1, 1) := by decide +kernel
theorem dX11_changedBy_57 : decode cX11_changedBy 57 = .ok (.iload_n 2, 1) := by decide +kernel
theorem dX11_changedBy_58 : decode cX11_changedBy 58 = .ok (.iload_n 3, 1) := by decide +kernel
theorem dX11_changedBy_59 : decode cX11_changedBy 59 = .ok (.invokevirtual 454, 3) := by decide +kernel
theorem dX11_changedBy_62 : decode cX11_changedBy 62 = .ok (.ifCond .eq 7, 3) := by decide +kernel
theorem dX11_changedBy_65 : decode cX11_changedBy 65 = .ok (.iconst 1, 1) := by decide +kernel
theorem dX11_changedBy_66 : decode cX11_changedBy 66 = .ok (.goto 4, 3) := by decide +kernel
theorem dX11_changedBy_69 : decode cX11_changedBy 69 = .ok (.iconst 0, 1) := by decide +kernel
theorem dX11_changedBy_70 : decode cX11_changedBy 70 = .ok (.bastore, 1) := by decide +kernel
theorem dX11_changedBy_71 : decode cX11_changedBy 71 = .ok (.aload_n 0, 1) := by decide +kernel
theorem dX11_changedBy_72 : decode cX11_changedBy 72 = .ok (.invokevirtual 137, 3) := by decide +kernel
theorem dX11_changedBy_75 : decode cX11_changedBy 75 = .ok (.iconst 0, 1) := by decide +kernel
theorem dX11_changedBy_76 : decode cX11_changedBy 76 = .ok (.istore 4, 2) := by decide +kernel
theorem dX11_changedBy_78 : decode cX11_changedBy 78 = .ok (.iconst 0, 1) := by decide +kernel
theorem dX11_changedBy_79 : decode cX11_changedBy 79 = .ok (.istore 5, 2) := by decide +kernel
theorem dX11_changedBy_81 : decode cX11_changedBy 81 = .ok (.iload 5, 2) := by decide +kernel
theorem dX11_changedBy_83 : decode cX11_changedBy 83 = .ok (.sipush 1681, 3) := by decide +kernel
theorem dX11_changedBy_86 : decode cX11_changedBy 86 = .ok (.if_icmp .ge 58, 3) := by decide +kernel
theorem dX11_changedBy_89 : decode cX11_changedBy 89 = .ok (.iload 4, 2) := by decide +kernel
theorem dX11_changedBy_91 : decode cX11_changedBy 91 = .ok (.aload_n 0, 1) := by decide +kernel
theorem dX11_changedBy_92 : decode cX11_changedBy 92 = .ok (.getfield 38, 3) := by decide +kernel
theorem dX11_changedBy_95 : decode cX11_changedBy 95 = .ok (.sipush 1681, 3) := by decide +kernel
theorem dX11_changedBy_98 : decode cX11_changedBy 98 = .ok (.iload_n 1, 1) := by decide +kernel
theorem dX11_changedBy_99 : decode cX11_changedBy 99 = .ok (.imul, 1) := by decide +kernel
theorem dX11_changedBy_100 : decode cX11_changedBy 100 = .ok (.iload 5, 2) := by decide +kernel
theorem dX11_changedBy_102 : decode cX11_changedBy 102 = .ok (.iadd, 1) := by decide +kernel
theorem dX11_changedBy_103 : decode cX11_changedBy 103 = .ok (.iaload, 1) := by decide +kernel
theorem dX11_changedBy_104 : decode cX11_changedBy 104 = .ok (.ifCond .ne 7, 3) := by decide +kernel
theorem dX11_changedBy_107 : decode cX11_changedBy 107 = .ok (.iconst 1, 1) := by decide +kernel
theorem dX11_changedBy_108 : decode cX11_changedBy 108 = .ok (.goto 4, 3) := by decide +kernel
theorem dX11_changedBy_111 : decode cX11_changedBy 111 = .ok (.iconst 0, 1) := by decide +kernel
theorem dX11_changedBy_112 : decode cX11_changedBy 112 = .ok (.aload_n 0, 1) := by decide +kernel
theorem dX11_changedBy_113 : decode cX11_changedBy 113 = .ok (.getfield 29, 3) := by decide +kernel
theorem dX11_changedBy_116 : decode cX11_changedBy 116 = .ok (.iload 5, 2) := by decide +kernel
theorem dX11_changedBy_118 : decode cX11_changedBy 118 = .ok (.iaload, 1) := by decide +kernel
theorem dX11_changedBy_119 : decode cX11_changedBy 119 = .ok (.ifCond .ne 7, 3) := by decide +kernel
theorem dX11_changedBy_122 : decode cX11_changedBy 122 = .ok (.iconst 1, 1) := by decide +kernel
theorem dX11_changedBy_123 : decode cX11_changedBy 123 = .ok (.goto 4, 3) := by decide +kernel
theorem dX11_changedBy_126 : decode cX11_changedBy 126 = .ok (.iconst 0, 1) := by decide +kernel
theorem dX11_changedBy_127 : decode cX11_changedBy 127 = .ok (.if_icmp .ne 7, 3) := by decide +kernel
theorem dX11_changedBy_130 : decode cX11_changedBy 130 = .ok (.iconst 0, 1) := by decide +kernel
theorem dX11_changedBy_131 : decode cX11_changedBy 131 = .ok (.goto 4, 3) := by decide +kernel
theorem dX11_changedBy_134 : decode cX11_changedBy 134 = .ok (.iconst 1, 1) := by decide +kernel
theorem dX11_changedBy_135 : decode cX11_changedBy 135 = .ok (.iadd, 1) := by decide +kernel
theorem dX11_changedBy_136 : decode cX11_changedBy 136 = .ok (.istore 4, 2) := by decide +kernel
theorem dX11_changedBy_138 : decode cX11_changedBy 138 = .ok (.iinc 5 1, 3) := by decide +kernel
theorem dX11_changedBy_141 : decode cX11_changedBy 141 = .ok (.goto (-60), 3) := by decide +kernel
theorem dX11_changedBy_144 : decode cX11_changedBy 144 = .ok (.iload 4, 2) := by decide +kernel
theorem dX11_changedBy_146 : decode cX11_changedBy 146 = .ok (.ireturn, 1) := by decide +kernel
theorem dX11_losingWith_0 : decode cX11_losingWith 0 = .ok (.aload_n 0, 1) := by decide +kernel
theorem dX11_losingWith_1 : decode cX11_losingWith 1 = .ok (.iconst 0, 1) := by decide +kernel
theorem dX11_losingWith_2 : decode cX11_losingWith 2 = .ok (.putfield 67, 3) := by decide +kernel
theorem dX11_losingWith_5 : decode cX11_losingWith 5 = .ok (.aload_n 0, 1) := by decide +kernel
theorem dX11_losingWith_6 : decode cX11_losingWith 6 = .ok (.iload_n 1, 1) := by decide +kernel
theorem dX11_losingWith_7 : decode cX11_losingWith 7 = .ok (.invokevirtual 402, 3) := by decide +kernel
theorem dX11_losingWith_10 : decode cX11_losingWith 10 = .ok (.ifCond .ne 25, 3) := by decide +kernel
theorem dX11_losingWith_13 : decode cX11_losingWith 13 = .ok (.aload_n 0, 1) := by decide +kernel
theorem dX11_losingWith_14 : decode cX11_losingWith 14 = .ok (.iload_n 2, 1) := by decide +kernel
theorem dX11_losingWith_15 : decode cX11_losingWith 15 = .ok (.iconst 0, 1) := by decide +kernel
theorem dX11_losingWith_16 : decode cX11_losingWith 16 = .ok (.iconst 5, 1) := by decide +kernel
theorem dX11_losingWith_17 : decode cX11_losingWith 17 = .ok (.invokestatic 77, 3) := by decide +kernel
theorem dX11_losingWith_20 : decode cX11_losingWith 20 = .ok (.ifCond .ne 7, 3) := by decide +kernel
theorem dX11_losingWith_23 : decode cX11_losingWith 23 = .ok (.iconst 1, 1) := by decide +kernel
theorem dX11_losingWith_24 : decode cX11_losingWith 24 = .ok (.goto 4, 3) := by decide +kernel
theorem dX11_losingWith_27 : decode cX11_losingWith 27 = .ok (.iconst 0, 1) := by decide +kernel
theorem dX11_losingWith_28 : decode cX11_losingWith 28 = .ok (.iconst 2, 1) := by decide +kernel
theorem dX11_losingWith_29 : decode cX11_losingWith 29 = .ok (.invokevirtual 81, 3) := by decide +kernel
theorem dX11_losingWith_32 : decode cX11_losingWith 32 = .ok (.ifCond .eq 5, 3) := by decide +kernel
theorem dX11_losingWith_35 : decode cX11_losingWith 35 = .ok (.iconst 0, 1) := by decide +kernel
theorem dX11_losingWith_36 : decode cX11_losingWith 36 = .ok (.ireturn, 1) := by decide +kernel
theorem dX11_losingWith_37 : decode cX11_losingWith 37 = .ok (.aload_n 0, 1) := by decide +kernel
theorem dX11_losingWith_38 : decode cX11_losingWith 38 = .ok (.iload_n 1, 1) := by decide +kernel
theorem dX11_losingWith_39 : decode cX11_losingWith 39 = .ok (.bipush 18, 2) := by decide +kernel
theorem dX11_losingWith_41 : decode cX11_losingWith 41 = .ok (.invokevirtual 85, 3) := by decide +kernel
theorem dX11_losingWith_44 : decode cX11_losingWith 44 = .ok (.istore_n 3, 1) := by decide +kernel
theorem dX11_losingWith_45 : decode cX11_losingWith 45 = .ok (.aload_n 0, 1) := by decide +kernel
theorem dX11_losingWith_46 : decode cX11_losingWith 46 = .ok (.iload_n 1, 1) := by decide +kernel
theorem dX11_losingWith_47 : decode cX11_losingWith 47 = .ok (.bipush 18, 2) := by decide +kernel
theorem dX11_losingWith_49 : decode cX11_losingWith 49 = .ok (.iload_n 2, 1) := by decide +kernel
theorem dX11_losingWith_50 : decode cX11_losingWith 50 = .ok (.invokevirtual 60, 3) := by decide +kernel
theorem dX11_losingWith_53 : decode cX11_losingWith 53 = .ok (.aload_n 0, 1) := by decide +kernel
theorem dX11_losingWith_54 : decode cX11_losingWith 54 = .ok (.iload_n 1, 1) := by decide +kernel
theorem dX11_losingWith_55 : decode cX11_losingWith 55 = .ok (.invokevirtual 133, 3) := by decide +kernel
theorem dX11_losingWith_58 : decode cX11_losingWith 58 = .ok (.aload_n 0, 1) := by decide +kernel
theorem dX11_losingWith_59 : decode cX11_losingWith 59 = .ok (.iload_n 1, 1) := by decide +kernel
theorem dX11_losingWith_60 : decode cX11_losingWith 60 = .ok (.bipush 18, 2) := by decide +kernel
theorem dX11_losingWith_62 : decode cX11_losingWith 62 = .ok (.iload_n 3, 1) := by decide +kernel
theorem dX11_losingWith_63 : decode cX11_losingWith 63 = .ok (.invokevirtual 60, 3) := by decide +kernel
theorem dX11_losingWith_66 : decode cX11_losingWith 66 = .ok (.aload_n 0, 1) := by decide +kernel
theorem dX11_losingWith_67 : decode cX11_losingWith 67 = .ok (.invokevirtual 137, 3) := by decide +kernel
theorem dX11_losingWith_70 : decode cX11_losingWith 70 = .ok (.aload_n 0, 1) := by decide +kernel
theorem dX11_losingWith_71 : decode cX11_losingWith 71 = .ok (.invokevirtual 457, 3) := by decide +kernel
theorem dX11_losingWith_74 : decode cX11_losingWith 74 = .ok (.ireturn, 1) := by decide +kernel
theorem dX11_share_0 : decode cX11_share 0 = .ok (.aload_n 0, 1) := by decide +kernel
theorem dX11_share_1 : decode cX11_share 1 = .ok (.iconst 0, 1) := by decide +kernel
theorem dX11_share_2 : decode cX11_share 2 = .ok (.putfield 67, 3) := by decide +kernel
theorem dX11_share_5 : decode cX11_share 5 = .ok (.aload_n 0, 1) := by decide +kernel
theorem dX11_share_6 : decode cX11_share 6 = .ok (.iload_n 1, 1) := by decide +kernel
theorem dX11_share_7 : decode cX11_share 7 = .ok (.invokevirtual 402, 3) := by decide +kernel
theorem dX11_share_10 : decode cX11_share 10 = .ok (.ifCond .eq 5, 3) := by decide +kernel
theorem dX11_share_13 : decode cX11_share 13 = .ok (.fconst 0, 1) := by decide +kernel
theorem dX11_share_14 : decode cX11_share 14 = .ok (.freturn, 1) := by decide +kernel
theorem dX11_share_15 : decode cX11_share 15 = .ok (.aload_n 0, 1) := by decide +kernel
theorem dX11_share_16 : decode cX11_share 16 = .ok (.iload_n 1, 1) := by decide +kernel
theorem dX11_share_17 : decode cX11_share 17 = .ok (.invokevirtual 143, 3) := by decide +kernel
theorem dX11_share_20 : decode cX11_share 20 = .ok (.aload_n 0, 1) := by decide +kernel
theorem dX11_share_21 : decode cX11_share 21 = .ok (.iload_n 1, 1) := by decide +kernel
theorem dX11_share_22 : decode cX11_share 22 = .ok (.invokevirtual 412, 3) := by decide +kernel
theorem dX11_share_25 : decode cX11_share 25 = .ok (.i2f, 1) := by decide +kernel
theorem dX11_share_26 : decode cX11_share 26 = .ok (.ldc_w 460, 3) := by decide +kernel
theorem dX11_share_29 : decode cX11_share 29 = .ok (.fdiv, 1) := by decide +kernel
theorem dX11_share_30 : decode cX11_share 30 = .ok (.freturn, 1) := by decide +kernel
theorem dX11_meanValue_0 : decode cX11_meanValue 0 = .ok (.aload_n 0, 1) := by decide +kernel
theorem dX11_meanValue_1 : decode cX11_meanValue 1 = .ok (.iconst 0, 1) := by decide +kernel
theorem dX11_meanValue_2 : decode cX11_meanValue 2 = .ok (.putfield 67, 3) := by decide +kernel
theorem dX11_meanValue_5 : decode cX11_meanValue 5 = .ok (.aload_n 0, 1) := by decide +kernel
theorem dX11_meanValue_6 : decode cX11_meanValue 6 = .ok (.iload_n 1, 1) := by decide +kernel
theorem dX11_meanValue_7 : decode cX11_meanValue 7 = .ok (.invokevirtual 402, 3) := by decide +kernel
theorem dX11_meanValue_10 : decode cX11_meanValue 10 = .ok (.ifCond .eq 5, 3) := by decide +kernel
theorem dX11_meanValue_13 : decode cX11_meanValue 13 = .ok (.dconst 0, 1) := by decide +kernel
theorem dX11_meanValue_14 : decode cX11_meanValue 14 = .ok (.dreturn, 1) := by decide +kernel
theorem dX11_meanValue_15 : decode cX11_meanValue 15 = .ok (.aload_n 0, 1) := by decide +kernel
theorem dX11_meanValue_16 : decode cX11_meanValue 16 = .ok (.iload_n 1, 1) := by decide +kernel
theorem dX11_meanValue_17 : decode cX11_meanValue 17 = .ok (.invokevirtual 143, 3) := by decide +kernel
theorem dX11_meanValue_20 : decode cX11_meanValue 20 = .ok (.iconst 0, 1) := by decide +kernel
theorem dX11_meanValue_21 : decode cX11_meanValue 21 = .ok (.istore_n 2, 1) := by decide +kernel
theorem dX11_meanValue_22 : decode cX11_meanValue 22 = .ok (.iconst 0, 1) := by decide +kernel
theorem dX11_meanValue_23 : decode cX11_meanValue 23 = .ok (.istore_n 3, 1) := by decide +kernel
theorem dX11_meanValue_24 : decode cX11_meanValue 24 = .ok (.iload_n 3, 1) := by decide +kernel
theorem dX11_meanValue_25 : decode cX11_meanValue 25 = .ok (.sipush 1681, 3) := by decide +kernel
theorem dX11_meanValue_28 : decode cX11_meanValue 28 = .ok (.if_icmp .ge 24, 3) := by decide +kernel
theorem dX11_meanValue_31 : decode cX11_meanValue 31 = .ok (.iload_n 2, 1) := by decide +kernel
theorem dX11_meanValue_32 : decode cX11_meanValue 32 = .ok (.aload_n 0, 1) := by decide +kernel
theorem dX11_meanValue_33 : decode cX11_meanValue 33 = .ok (.getfield 38, 3) := by decide +kernel
theorem dX11_meanValue_36 : decode cX11_meanValue 36 = .ok (.sipush 1681, 3) := by decide +kernel
theorem dX11_meanValue_39 : decode cX11_meanValue 39 = .ok (.iload_n 1, 1) := by decide +kernel
theorem dX11_meanValue_40 : decode cX11_meanValue 40 = .ok (.imul, 1) := by decide +kernel
theorem dX11_meanValue_41 : decode cX11_meanValue 41 = .ok (.iload_n 3, 1) := by decide +kernel
theorem dX11_meanValue_42 : decode cX11_meanValue 42 = .ok (.iadd, 1) := by decide +kernel
theorem dX11_meanValue_43 : decode cX11_meanValue 43 = .ok (.iaload, 1) := by decide +kernel
theorem dX11_meanValue_44 : decode cX11_meanValue 44 = .ok (.iadd, 1) := by decide +kernel
theorem dX11_meanValue_45 : decode cX11_meanValue 45 = .ok (.istore_n 2, 1) := by decide +kernel
theorem dX11_meanValue_46 : decode cX11_meanValue 46 = .ok (.iinc 3 1, 3) := by decide +kernel
theorem dX11_meanValue_49 : decode cX11_meanValue 49 = .ok (.goto (-25), 3) := by decide +kernel
theorem dX11_meanValue_52 : decode cX11_meanValue 52 = .ok (.iload_n 2, 1) := by decide +kernel
theorem dX11_meanValue_53 : decode cX11_meanValue 53 = .ok (.i2d, 1) := by decide +kernel
theorem dX11_meanValue_54 : decode cX11_meanValue 54 = .ok (.ldc2_w 461, 3) := by decide +kernel
theorem dX11_meanValue_57 : decode cX11_meanValue 57 = .ok (.ddiv, 1) := by decide +kernel
theorem dX11_meanValue_58 : decode cX11_meanValue 58 = .ok (.dreturn, 1) := by decide +kernel
theorem dX11_move_0 : decode cX11_move 0 = .ok (.aload_n 0, 1) := by decide +kernel
theorem dX11_move_1 : decode cX11_move 1 = .ok (.iconst 0, 1) := by decide +kernel
theorem dX11_move_2 : decode cX11_move 2 = .ok (.putfield 67, 3) := by decide +kernel
theorem dX11_move_5 : decode cX11_move 5 = .ok (.aload_n 0, 1) := by decide +kernel
theorem dX11_move_6 : decode cX11_move 6 = .ok (.iload_n 1, 1) := by decide +kernel
theorem dX11_move_7 : decode cX11_move 7 = .ok (.invokevirtual 418, 3) := by decide +kernel
theorem dX11_move_10 : decode cX11_move 10 = .ok (.ifCond .ne 26, 3) := by decide +kernel
theorem dX11_move_13 : decode cX11_move 13 = .ok (.aload_n 0, 1) := by decide +kernel
theorem dX11_move_14 : decode cX11_move 14 = .ok (.aload_n 0, 1) := by decide +kernel
theorem dX11_move_15 : decode cX11_move 15 = .ok (.iload_n 1, 1) := by decide +kernel
theorem dX11_move_16 : decode cX11_move 16 = .ok (.iload_n 2, 1) := by decide +kernel
theorem dX11_move_17 : decode cX11_move 17 = .ok (.iload_n 3, 1) := by decide +kernel
theorem dX11_move_18 : decode cX11_move 18 = .ok (.invokevirtual 209, 3) := by decide +kernel
theorem dX11_move_21 : decode cX11_move 21 = .ok (.ifCond .eq 7, 3) := by decide +kernel
theorem dX11_move_24 : decode cX11_move 24 = .ok (.iconst 1, 1) := by decide +kernel
theorem dX11_move_25 : decode cX11_move 25 = .ok (.goto 4, 3) := by decide +kernel
theorem dX11_move_28 : decode cX11_move 28 = .ok (.iconst 0, 1) := by decide +kernel
theorem dX11_move_29 : decode cX11_move 29 = .ok (.iconst 2, 1) := by decide +kernel
theorem dX11_move_30 : decode cX11_move 30 = .ok (.invokevirtual 81, 3) := by decide +kernel
theorem dX11_move_33 : decode cX11_move 33 = .ok (.ifCond .eq 5, 3) := by decide +kernel
theorem dX11_move_36 : decode cX11_move 36 = .ok (.iconst 0, 1) := by decide +kernel
theorem dX11_move_37 : decode cX11_move 37 = .ok (.ireturn, 1) := by decide +kernel
theorem dX11_move_38 : decode cX11_move 38 = .ok (.aload_n 0, 1) := by decide +kernel
theorem dX11_move_39 : decode cX11_move 39 = .ok (.invokevirtual 389, 3) := by decide +kernel
theorem dX11_move_42 : decode cX11_move 42 = .ok (.aload_n 0, 1) := by decide +kernel
theorem dX11_move_43 : decode cX11_move 43 = .ok (.invokevirtual 463, 3) := by decide +kernel
theorem dX11_move_46 : decode cX11_move 46 = .ok (.aload_n 0, 1) := by decide +kernel
theorem dX11_move_47 : decode cX11_move 47 = .ok (.iload_n 1, 1) := by decide +kernel
theorem dX11_move_48 : decode cX11_move 48 = .ok (.iload_n 2, 1) := by decide +kernel
theorem dX11_move_49 : decode cX11_move 49 = .ok (.iload_n 3, 1) := by decide +kernel
theorem dX11_move_50 : decode cX11_move 50 = .ok (.invokevirtual 250, 3) := by decide +kernel
theorem dX11_move_53 : decode cX11_move 53 = .ok (.aload_n 0, 1) := by decide +kernel
theorem dX11_move_54 : decode cX11_move 54 = .ok (.invokevirtual 206, 3) := by decide +kernel
theorem dX11_move_57 : decode cX11_move 57 = .ok (.ireturn, 1) := by decide +kernel
theorem dX11_follow_0 : decode cX11_follow 0 = .ok (.aload_n 0, 1) := by decide +kernel
theorem dX11_follow_1 : decode cX11_follow 1 = .ok (.iconst 0, 1) := by decide +kernel
theorem dX11_follow_2 : decode cX11_follow 2 = .ok (.putfield 67, 3) := by decide +kernel
theorem dX11_follow_5 : decode cX11_follow 5 = .ok (.aload_n 0, 1) := by decide +kernel
theorem dX11_follow_6 : decode cX11_follow 6 = .ok (.iload_n 1, 1) := by decide +kernel
theorem dX11_follow_7 : decode cX11_follow 7 = .ok (.iconst 1, 1) := by decide +kernel
theorem dX11_follow_8 : decode cX11_follow 8 = .ok (.sipush 600, 3) := by decide +kernel
theorem dX11_follow_11 : decode cX11_follow 11 = .ok (.invokestatic 77, 3) := by decide +kernel
theorem dX11_follow_14 : decode cX11_follow 14 = .ok (.ifCond .ne 7, 3) := by decide +kernel
theorem dX11_follow_17 : decode cX11_follow 17 = .ok (.iconst 1, 1) := by decide +kernel
theorem dX11_follow_18 : decode cX11_follow 18 = .ok (.goto 4, 3) := by decide +kernel
theorem dX11_follow_21 : decode cX11_follow 21 = .ok (.iconst 0, 1) := by decide +kernel
theorem dX11_follow_22 : decode cX11_follow 22 = .ok (.iconst 1, 1) := by decide +kernel
theorem dX11_follow_23 : decode cX11_follow 23 = .ok (.invokevirtual 81, 3) := by decide +kernel
theorem dX11_follow_26 : decode cX11_follow 26 = .ok (.ifCond .eq 5, 3) := by decide +kernel
theorem dX11_follow_29 : decode cX11_follow 29 = .ok (.iconst 0, 1) := by decide +kernel
theorem dX11_follow_30 : decode cX11_follow 30 = .ok (.ireturn, 1) := by decide +kernel
theorem dX11_follow_31 : decode cX11_follow 31 = .ok (.aload_n 0, 1) := by decide +kernel
theorem dX11_follow_32 : decode cX11_follow 32 = .ok (.invokevirtual 389, 3) := by decide +kernel
theorem dX11_follow_35 : decode cX11_follow 35 = .ok (.aload_n 0, 1) := by decide +kernel
theorem dX11_follow_36 : decode cX11_follow 36 = .ok (.invokevirtual 463, 3) := by decide +kernel
theorem dX11_follow_39 : decode cX11_follow 39 = .ok (.aload_n 0, 1) := by decide +kernel
theorem dX11_follow_40 : decode cX11_follow 40 = .ok (.iload_n 1, 1) := by decide +kernel
theorem dX11_follow_41 : decode cX11_follow 41 = .ok (.invokevirtual 448, 3) := by decide +kernel
theorem dX11_follow_44 : decode cX11_follow 44 = .ok (.ireturn, 1) := by decide +kernel
theorem dX11_dropsBar_0 : decode cX11_dropsBar 0 = .ok (.aload_n 0, 1) := by decide +kernel
theorem dX11_dropsBar_1 : decode cX11_dropsBar 1 = .ok (.iload_n 1, 1) := by decide +kernel
theorem dX11_dropsBar_2 : decode cX11_dropsBar 2 = .ok (.bipush 20, 2) := by decide +kernel
theorem dX11_dropsBar_4 : decode cX11_dropsBar 4 = .ok (.invokevirtual 85, 3) := by decide +kernel
theorem dX11_dropsBar_7 : decode cX11_dropsBar 7 = .ok (.iconst 1, 1) := by decide +kernel
theorem dX11_dropsBar_8 : decode cX11_dropsBar 8 = .ok (.isub, 1) := by decide +kernel
theorem dX11_dropsBar_9 : decode cX11_dropsBar 9 = .ok (.istore_n 3, 1) := by decide +kernel
theorem dX11_dropsBar_10 : decode cX11_dropsBar 10 = .ok (.iconst 2, 1) := by decide +kernel
theorem dX11_dropsBar_11 : decode cX11_dropsBar 11 = .ok (.iload_n 2, 1) := by decide +kernel
theorem dX11_dropsBar_12 : decode cX11_dropsBar 12 = .ok (.imul, 1) := by decide +kernel
theorem dX11_dropsBar_13 : decode cX11_dropsBar 13 = .ok (.istore 4, 2) := by decide +kernel
theorem dX11_dropsBar_15 : decode cX11_dropsBar 15 = .ok (.iload 4, 2) := by decide +kernel
theorem dX11_dropsBar_17 : decode cX11_dropsBar 17 = .ok (.iconst 2, 1) := by decide +kernel
theorem dX11_dropsBar_18 : decode cX11_dropsBar 18 = .ok (.iload_n 3, 1) := by decide +kernel
theorem dX11_dropsBar_19 : decode cX11_dropsBar 19 = .ok (.imul, 1) := by decide +kernel
theorem dX11_dropsBar_20 : decode cX11_dropsBar 20 = .ok (.if_icmp .ge 31, 3) := by decide +kernel
theorem dX11_dropsBar_23 : decode cX11_dropsBar 23 = .ok (.aload_n 0, 1) := by decide +kernel
theorem dX11_dropsBar_24 : decode cX11_dropsBar 24 = .ok (.iload_n 1, 1) := by decide +kernel
theorem dX11_dropsBar_25 : decode cX11_dropsBar 25 = .ok (.bipush 21, 2) := by decide +kernel
theorem dX11_dropsBar_27 : decode cX11_dropsBar 27 = .ok (.iload 4, 2) := by decide +kernel
theorem dX11_dropsBar_29 : decode cX11_dropsBar 29 = .ok (.iadd, 1) := by decide +kernel
theorem dX11_dropsBar_30 : decode cX11_dropsBar 30 = .ok (.aload_n 0, 1) := by decide +kernel
theorem dX11_dropsBar_31 : decode cX11_dropsBar 31 = .ok (.iload_n 1, 1) := by decide +kernel
theorem dX11_dropsBar_32 : decode cX11_dropsBar 32 = .ok (.bipush 21, 2) := by decide +kernel
theorem dX11_dropsBar_34 : decode cX11_dropsBar 34 = .ok (.iload 4, 2) := by decide +kernel
theorem dX11_dropsBar_36 : decode cX11_dropsBar 36 = .ok (.iadd, 1) := by decide +kernel
theorem dX11_dropsBar_37 : decode cX11_dropsBar 37 = .ok (.iconst 2, 1) := by decide +kernel
theorem dX11_dropsBar_38 : decode cX11_dropsBar 38 = .ok (.iadd, 1) := by decide +kernel
theorem dX11_dropsBar_39 : decode cX11_dropsBar 39 = .ok (.invokevirtual 85, 3) := by decide +kernel
theorem dX11_dropsBar_42 : decode cX11_dropsBar 42 = .ok (.invokevirtual 60, 3) := by decide +kernel
theorem dX11_dropsBar_45 : decode cX11_dropsBar 45 = .ok (.iinc 4 1, 3) := by decide +kernel
theorem dX11_dropsBar_48 : decode cX11_dropsBar 48 = .ok (.goto (-33), 3) := by decide +kernel
theorem dX11_dropsBar_51 : decode cX11_dropsBar 51 = .ok (.aload_n 0, 1) := by decide +kernel
theorem dX11_dropsBar_52 : decode cX11_dropsBar 52 = .ok (.iload_n 1, 1) := by decide +kernel
theorem dX11_dropsBar_53 : decode cX11_dropsBar 53 = .ok (.bipush 21, 2) := by decide +kernel
theorem dX11_dropsBar_55 : decode cX11_dropsBar 55 = .ok (.iconst 2, 1) := by decide +kernel
theorem dX11_dropsBar_56 : decode cX11_dropsBar 56 = .ok (.iload_n 3, 1) := by decide +kernel
theorem dX11_dropsBar_57 : decode cX11_dropsBar 57 = .ok (.imul, 1) := by decide +kernel
theorem dX11_dropsBar_58 : decode cX11_dropsBar 58 = .ok (.iadd, 1) := by decide +kernel
theorem dX11_dropsBar_59 : decode cX11_dropsBar 59 = .ok (.iconst 0, 1) := by decide +kernel
theorem dX11_dropsBar_60 : decode cX11_dropsBar 60 = .ok (.invokevirtual 60, 3) := by decide +kernel
theorem dX11_dropsBar_63 : decode cX11_dropsBar 63 = .ok (.aload_n 0, 1) := by decide +kernel
theorem dX11_dropsBar_64 : decode cX11_dropsBar 64 = .ok (.iload_n 1, 1) := by decide +kernel
theorem dX11_dropsBar_65 : decode cX11_dropsBar 65 = .ok (.bipush 21, 2) := by decide +kernel
theorem dX11_dropsBar_67 : decode cX11_dropsBar 67 = .ok (.iconst 2, 1) := by decide +kernel
theorem dX11_dropsBar_68 : decode cX11_dropsBar 68 = .ok (.iload_n 3, 1) := by decide +kernel
theorem dX11_dropsBar_69 : decode cX11_dropsBar 69 = .ok (.imul, 1) := by decide +kernel
theorem dX11_dropsBar_70 : decode cX11_dropsBar 70 = .ok (.iadd, 1) := by decide +kernel
theorem dX11_dropsBar_71 : decode cX11_dropsBar 71 = .ok (.iconst 1, 1) := by decide +kernel
theorem dX11_dropsBar_72 : decode cX11_dropsBar 72 = .ok (.iadd, 1) := by decide +kernel
theorem dX11_dropsBar_73 : decode cX11_dropsBar 73 = .ok (.iconst 0, 1) := by decide +kernel
theorem dX11_dropsBar_74 : decode cX11_dropsBar 74 = .ok (.invokevirtual 60, 3) := by decide +kernel
theorem dX11_dropsBar_77 : decode cX11_dropsBar 77 = .ok (.aload_n 0, 1) := by decide +kernel
theorem dX11_dropsBar_78 : decode cX11_dropsBar 78 = .ok (.iload_n 1, 1) := by decide +kernel
theorem dX11_dropsBar_79 : decode cX11_dropsBar 79 = .ok (.bipush 20, 2) := by decide +kernel
theorem dX11_dropsBar_81 : decode cX11_dropsBar 81 = .ok (.iload_n 3, 1) := by decide +kernel
theorem dX11_dropsBar_82 : decode cX11_dropsBar 82 = .ok (.invokevirtual 60, 3) := by decide +kernel
theorem dX11_dropsBar_85 : decode cX11_dropsBar 85 = .ok (.return_, 1) := by decide +kernel
theorem dX11_bar_0 : decode cX11_bar 0 = .ok (.aload_n 0, 1) := by decide +kernel
theorem dX11_bar_1 : decode cX11_bar 1 = .ok (.iconst 0, 1) := by decide +kernel
theorem dX11_bar_2 : decode cX11_bar 2 = .ok (.putfield 67, 3) := by decide +kernel
theorem dX11_bar_5 : decode cX11_bar 5 = .ok (.aload_n 0, 1) := by decide +kernel
theorem dX11_bar_6 : decode cX11_bar 6 = .ok (.iload_n 1, 1) := by decide +kernel
theorem dX11_bar_7 : decode cX11_bar 7 = .ok (.invokevirtual 402, 3) := by decide +kernel
theorem dX11_bar_10 : decode cX11_bar 10 = .ok (.ifCond .ne 12, 3) := by decide +kernel
theorem dX11_bar_13 : decode cX11_bar 13 = .ok (.aload_n 0, 1) := by decide +kernel
theorem dX11_bar_14 : decode cX11_bar 14 = .ok (.iload_n 2, 1) := by decide +kernel
theorem dX11_bar_15 : decode cX11_bar 15 = .ok (.iload_n 3, 1) := by decide +kernel
theorem dX11_bar_16 : decode cX11_bar 16 = .ok (.invokevirtual 451, 3) := by decide +kernel
theorem dX11_bar_19 : decode cX11_bar 19 = .ok (.ifCond .eq 5, 3) := by decide +kernel
theorem dX11_bar_22 : decode cX11_bar 22 = .ok (.iconst 0, 1) := by decide +kernel
theorem dX11_bar_23 : decode cX11_bar 23 = .ok (.ireturn, 1) := by decide +kernel
theorem dX11_bar_24 : decode cX11_bar 24 = .ok (.aload_n 0, 1) := by decide +kernel
theorem dX11_bar_25 : decode cX11_bar 25 = .ok (.iload_n 1, 1) := by decide +kernel
theorem dX11_bar_26 : decode cX11_bar 26 = .ok (.iload_n 2, 1) := by decide +kernel
theorem dX11_bar_27 : decode cX11_bar 27 = .ok (.iload_n 3, 1) := by decide +kernel
theorem dX11_bar_28 : decode cX11_bar 28 = .ok (.invokevirtual 102, 3) := by decide +kernel
theorem dX11_bar_31 : decode cX11_bar 31 = .ok (.istore 5, 2) := by decide +kernel
theorem dX11_bar_33 : decode cX11_bar 33 = .ok (.aload_n 0, 1) := by decide +kernel
theorem dX11_bar_34 : decode cX11_bar 34 = .ok (.iload 4, 2) := by decide +kernel
theorem dX11_bar_36 : decode cX11_bar 36 = .ok (.ifCond .eq 24, 3) := by decide +kernel
theorem dX11_bar_39 : decode cX11_bar 39 = .ok (.iload 5, 2) := by decide +kernel
theorem dX11_bar_41 : decode cX11_bar 41 = .ok (.iconst (-1), 1) := by decide +kernel
theorem dX11_bar_42 : decode cX11_bar 42 = .ok (.if_icmp .ne 18, 3) := by decide +kernel
theorem dX11_bar_45 : decode cX11_bar 45 = .ok (.aload_n 0, 1) := by decide +kernel
theorem dX11_bar_46 : decode cX11_bar 46 = .ok (.iload_n 1, 1) := by decide +kernel
theorem dX11_bar_47 : decode cX11_bar 47 = .ok (.bipush 20, 2) := by decide +kernel
theorem dX11_bar_49 : decode cX11_bar 49 = .ok (.invokevirtual 85, 3) := by decide +kernel
theorem dX11_bar_52 : decode cX11_bar 52 = .ok (.iconst 4, 1) := by decide +kernel
theorem dX11_bar_53 : decode cX11_bar 53 = .ok (.if_icmp .ne 7, 3) := by decide +kernel
theorem dX11_bar_56 : decode cX11_bar 56 = .ok (.iconst 1, 1) := by decide +kernel
theorem dX11_bar_57 : decode cX11_bar 57 = .ok (.goto 4, 3) := by decide +kernel
theorem dX11_bar_60 : decode cX11_bar 60 = .ok (.iconst 0, 1) := by decide +kernel
theorem dX11_bar_61 : decode cX11_bar 61 = .ok (.iconst 3, 1) := by decide +kernel
theorem dX11_bar_62 : decode cX11_bar 62 = .ok (.invokevirtual 81, 3) := by decide +kernel
theorem dX11_bar_65 : decode cX11_bar 65 = .ok (.ifCond .eq 5, 3) := by decide +kernel
theorem dX11_bar_68 : decode cX11_bar 68 = .ok (.iconst 0, 1) := by decide +kernel
theorem dX11_bar_69 : decode cX11_bar 69 = .ok (.ireturn, 1) := by decide +kernel
theorem dX11_bar_70 : decode cX11_bar 70 = .ok (.aload_n 0, 1) := by decide +kernel
theorem dX11_bar_71 : decode cX11_bar 71 = .ok (.invokevirtual 463, 3) := by decide +kernel
theorem dX11_bar_74 : decode cX11_bar 74 = .ok (.iload 4, 2) := by decide +kernel
theorem dX11_bar_76 : decode cX11_bar 76 = .ok (.ifCond .eq 16, 3) := by decide +kernel
theorem dX11_bar_79 : decode cX11_bar 79 = .ok (.iload 5, 2) := by decide +kernel
theorem dX11_bar_81 : decode cX11_bar 81 = .ok (.iconst (-1), 1) := by decide +kernel
theorem dX11_bar_82 : decode cX11_bar 82 = .ok (.if_icmp .ne 10, 3) := by decide +kernel
theorem dX11_bar_85 : decode cX11_bar 85 = .ok (.aload_n 0, 1) := by decide +kernel
theorem dX11_bar_86 : decode cX11_bar 86 = .ok (.iload_n 1, 1) := by decide +kernel
theorem dX11_bar_87 : decode cX11_bar 87 = .ok (.iload_n 2, 1) := by decide +kernel
theorem dX11_bar_88 : decode cX11_bar 88 = .ok (.iload_n 3, 1) := by decide +kernel
theorem dX11_bar_89 : decode cX11_bar 89 = .ok (.invokevirtual 322, 3) := by decide +kernel
theorem dX11_bar_92 : decode cX11_bar 92 = .ok (.iload 4, 2) := by decide +kernel
theorem dX11_bar_94 : decode cX11_bar 94 = .ok (.ifCond .ne 16, 3) := by decide +kernel
theorem dX11_bar_97 : decode cX11_bar 97 = .ok (.iload 5, 2) := by decide +kernel
theorem dX11_bar_99 : decode cX11_bar 99 = .ok (.iconst (-1), 1) := by decide +kernel
theorem dX11_bar_100 : decode cX11_bar 100 = .ok (.if_icmp .eq 10, 3) := by decide +kernel
theorem dX11_bar_103 : decode cX11_bar 103 = .ok (.aload_n 0, 1) := by decide +kernel
theorem dX11_bar_104 : decode cX11_bar 104 = .ok (.iload_n 1, 1) := by decide +kernel
theorem dX11_bar_105 : decode cX11_bar 105 = .ok (.iload 5, 2) := by decide +kernel
theorem dX11_bar_107 : decode cX11_bar 107 = .ok (.invokevirtual 466, 3) := by decide +kernel
theorem dX11_bar_110 : decode cX11_bar 110 = .ok (.aload_n 0, 1) := by decide +kernel
theorem dX11_bar_111 : decode cX11_bar 111 = .ok (.iload_n 1, 1) := by decide +kernel
theorem dX11_bar_112 : decode cX11_bar 112 = .ok (.bipush 20, 2) := by decide +kernel
theorem dX11_bar_114 : decode cX11_bar 114 = .ok (.invokevirtual 85, 3) := by decide +kernel
theorem dX11_bar_117 : decode cX11_bar 117 = .ok (.ireturn, 1) := by decide +kernel
theorem dX11_setsRule_0 : decode cX11_setsRule 0 = .ok (.aload_n 0, 1) := by decide +kernel
theorem dX11_setsRule_1 : decode cX11_setsRule 1 = .ok (.invokevirtual 463, 3) := by decide +kernel
theorem dX11_setsRule_4 : decode cX11_setsRule 4 = .ok (.aload_n 0, 1) := by decide +kernel
theorem dX11_setsRule_5 : decode cX11_setsRule 5 = .ok (.iload_n 1, 1) := by decide +kernel
theorem dX11_setsRule_6 : decode cX11_setsRule 6 = .ok (.iload_n 2, 1) := by decide +kernel
theorem dX11_setsRule_7 : decode cX11_setsRule 7 = .ok (.invokevirtual 85, 3) := by decide +kernel
theorem dX11_setsRule_10 : decode cX11_setsRule 10 = .ok (.istore 4, 2) := by decide +kernel
theorem dX11_setsRule_12 : decode cX11_setsRule 12 = .ok (.aload_n 0, 1) := by decide +kernel
theorem dX11_setsRule_13 : decode cX11_setsRule 13 = .ok (.iload_n 1, 1) := by decide +kernel
theorem dX11_setsRule_14 : decode cX11_setsRule 14 = .ok (.iload_n 2, 1) := by decide +kernel
theorem dX11_setsRule_15 : decode cX11_setsRule 15 = .ok (.iload_n 3, 1) := by decide +kernel
theorem dX11_setsRule_16 : decode cX11_setsRule 16 = .ok (.invokevirtual 60, 3) := by decide +kernel
theorem dX11_setsRule_19 : decode cX11_setsRule 19 = .ok (.iload 4, 2) := by decide +kernel
theorem dX11_setsRule_21 : decode cX11_setsRule 21 = .ok (.ireturn, 1) := by decide +kernel
theorem dX11_setSlack_0 : decode cX11_setSlack 0 = .ok (.aload_n 0, 1) := by decide +kernel
theorem dX11_setSlack_1 : decode cX11_setSlack 1 = .ok (.iconst 0, 1) := by decide +kernel
theorem dX11_setSlack_2 : decode cX11_setSlack 2 = .ok (.putfield 67, 3) := by decide +kernel
theorem dX11_setSlack_5 : decode cX11_setSlack 5 = .ok (.aload_n 0, 1) := by decide +kernel
theorem dX11_setSlack_6 : decode cX11_setSlack 6 = .ok (.iload_n 1, 1) := by decide +kernel
theorem dX11_setSlack_7 : decode cX11_setSlack 7 = .ok (.invokevirtual 402, 3) := by decide +kernel
theorem dX11_setSlack_10 : decode cX11_setSlack 10 = .ok (.ifCond .ne 25, 3) := by decide +kernel
theorem dX11_setSlack_13 : decode cX11_setSlack 13 = .ok (.aload_n 0, 1) := by decide +kernel
theorem dX11_setSlack_14 : decode cX11_setSlack 14 = .ok (.iload_n 2, 1) := by decide +kernel
theorem dX11_setSlack_15 : decode cX11_setSlack 15 = .ok (.iconst 0, 1) := by decide +kernel
theorem dX11_setSlack_16 : decode cX11_setSlack 16 = .ok (.iconst 5, 1) := by decide +kernel
theorem dX11_setSlack_17 : decode cX11_setSlack 17 = .ok (.invokestatic 77, 3) := by decide +kernel
theorem dX11_setSlack_20 : decode cX11_setSlack 20 = .ok (.ifCond .ne 7, 3) := by decide +kernel
theorem dX11_setSlack_23 : decode cX11_setSlack 23 = .ok (.iconst 1, 1) := by decide +kernel
theorem dX11_setSlack_24 : decode cX11_setSlack 24 = .ok (.goto 4, 3) := by decide +kernel
theorem dX11_setSlack_27 : decode cX11_setSlack 27 = .ok (.iconst 0, 1) := by decide +kernel
theorem dX11_setSlack_28 : decode cX11_setSlack 28 = .ok (.iconst 2, 1) := by decide +kernel
theorem dX11_setSlack_29 : decode cX11_setSlack 29 = .ok (.invokevirtual 81, 3) := by decide +kernel
theorem dX11_setSlack_32 : decode cX11_setSlack 32 = .ok (.ifCond .eq 7, 3) := by decide +kernel
theorem dX11_setSlack_35 : decode cX11_setSlack 35 = .ok (.iconst 0, 1) := by decide +kernel
theorem dX11_setSlack_36 : decode cX11_setSlack 36 = .ok (.goto 11, 3) := by decide +kernel
theorem dX11_setSlack_39 : decode cX11_setSlack 39 = .ok (.aload_n 0, 1) := by decide +kernel
theorem dX11_setSlack_40 : decode cX11_setSlack 40 = .ok (.iload_n 1, 1) := by decide +kernel
theorem dX11_setSlack_41 : decode cX11_setSlack 41 = .ok (.bipush 18, 2) := by decide +kernel
theorem dX11_setSlack_43 : decode cX11_setSlack 43 = .ok (.iload_n 2, 1) := by decide +kernel
theorem dX11_setSlack_44 : decode cX11_setSlack 44 = .ok (.invokevirtual 469, 3) := by decide +kernel
theorem dX11_setSlack_47 : decode cX11_setSlack 47 = .ok (.ireturn, 1) := by decide +kernel
theorem dX11_setMost_0 : decode cX11_setMost 0 = .ok (.aload_n 0, 1) := by decide +kernel
theorem dX11_setMost_1 : decode cX11_setMost 1 = .ok (.iconst 0, 1) := by decide +kernel
theorem dX11_setMost_2 : decode cX11_setMost 2 = .ok (.putfield 67, 3) := by decide +kernel
theorem dX11_setMost_5 : decode cX11_setMost 5 = .ok (.aload_n 0, 1) := by decide +kernel
theorem dX11_setMost_6 : decode cX11_setMost 6 = .ok (.iload_n 1, 1) := by decide +kernel
theorem dX11_setMost_7 : decode cX11_setMost 7 = .ok (.invokevirtual 402, 3) := by decide +kernel
theorem dX11_setMost_10 : decode cX11_setMost 10 = .ok (.ifCond .ne 26, 3) := by decide +kernel
theorem dX11_setMost_13 : decode cX11_setMost 13 = .ok (.aload_n 0, 1) := by decide +kernel
theorem dX11_setMost_14 : decode cX11_setMost 14 = .ok (.iload_n 2, 1) := by decide +kernel
theorem dX11_setMost_15 : decode cX11_setMost 15 = .ok (.iconst 1, 1) := by decide +kernel
theorem dX11_setMost_16 : decode cX11_setMost 16 = .ok (.bipush 40, 2) := by decide +kernel
theorem dX11_setMost_18 : decode cX11_setMost 18 = .ok (.invokestatic 77, 3) := by decide +kernel
theorem dX11_setMost_21 : decode cX11_setMost 21 = .ok (.ifCond .ne 7, 3) := by decide +kernel
theorem dX11_setMost_24 : decode cX11_setMost 24 = .ok (.iconst 1, 1) := by decide +kernel
theorem dX11_setMost_25 : decode cX11_setMost 25 = .ok (.goto 4, 3) := by decide +kernel
theorem dX11_setMost_28 : decode cX11_setMost 28 = .ok (.iconst 0, 1) := by decide +kernel
theorem dX11_setMost_29 : decode cX11_setMost 29 = .ok (.iconst 2, 1) := by decide +kernel
theorem dX11_setMost_30 : decode cX11_setMost 30 = .ok (.invokevirtual 81, 3) := by decide +kernel
theorem dX11_setMost_33 : decode cX11_setMost 33 = .ok (.ifCond .eq 7, 3) := by decide +kernel
theorem dX11_setMost_36 : decode cX11_setMost 36 = .ok (.iconst 0, 1) := by decide +kernel
theorem dX11_setMost_37 : decode cX11_setMost 37 = .ok (.goto 11, 3) := by decide +kernel
theorem dX11_setMost_40 : decode cX11_setMost 40 = .ok (.aload_n 0, 1) := by decide +kernel
theorem dX11_setMost_41 : decode cX11_setMost 41 = .ok (.iload_n 1, 1) := by decide +kernel
theorem dX11_setMost_42 : decode cX11_setMost 42 = .ok (.bipush 19, 2) := by decide +kernel
theorem dX11_setMost_44 : decode cX11_setMost 44 = .ok (.iload_n 2, 1) := by decide +kernel
theorem dX11_setMost_45 : decode cX11_setMost 45 = .ok (.invokevirtual 469, 3) := by decide +kernel
theorem dX11_setMost_48 : decode cX11_setMost 48 = .ok (.ireturn, 1) := by decide +kernel
theorem dX11_again_0 : decode cX11_again 0 = .ok (.aload_n 0, 1) := by decide +kernel
theorem dX11_again_1 : decode cX11_again 1 = .ok (.iconst 0, 1) := by decide +kernel
theorem dX11_again_2 : decode cX11_again 2 = .ok (.putfield 67, 3) := by decide +kernel
theorem dX11_again_5 : decode cX11_again 5 = .ok (.aload_n 0, 1) := by decide +kernel
theorem dX11_again_6 : decode cX11_again 6 = .ok (.iload_n 1, 1) := by decide +kernel
theorem dX11_again_7 : decode cX11_again 7 = .ok (.invokevirtual 399, 3) := by decide +kernel
theorem dX11_again_10 : decode cX11_again 10 = .ok (.ifCond .eq 5, 3) := by decide +kernel
theorem dX11_again_13 : decode cX11_again 13 = .ok (.iconst 0, 1) := by decide +kernel
theorem dX11_again_14 : decode cX11_again 14 = .ok (.ireturn, 1) := by decide +kernel
theorem dX11_again_15 : decode cX11_again 15 = .ok (.aload_n 0, 1) := by decide +kernel
theorem dX11_again_16 : decode cX11_again 16 = .ok (.invokevirtual 389, 3) := by decide +kernel
theorem dX11_again_19 : decode cX11_again 19 = .ok (.aload_n 0, 1) := by decide +kernel
theorem dX11_again_20 : decode cX11_again 20 = .ok (.invokevirtual 463, 3) := by decide +kernel
theorem dX11_again_23 : decode cX11_again 23 = .ok (.iconst 0, 1) := by decide +kernel
theorem dX11_again_24 : decode cX11_again 24 = .ok (.istore_n 2, 1) := by decide +kernel
theorem dX11_again_25 : decode cX11_again 25 = .ok (.iload_n 2, 1) := by decide +kernel
theorem dX11_again_26 : decode cX11_again 26 = .ok (.aload_n 0, 1) := by decide +kernel
theorem dX11_again_27 : decode cX11_again 27 = .ok (.getfield 7, 3) := by decide +kernel
theorem dX11_again_30 : decode cX11_again 30 = .ok (.iconst 1, 1) := by decide +kernel
theorem dX11_again_31 : decode cX11_again 31 = .ok (.iaload, 1) := by decide +kernel
theorem dX11_again_32 : decode cX11_again 32 = .ok (.if_icmp .ge 33, 3) := by decide +kernel
theorem dX11_again_35 : decode cX11_again 35 = .ok (.aload_n 0, 1) := by decide +kernel
theorem dX11_again_36 : decode cX11_again 36 = .ok (.iload_n 2, 1) := by decide +kernel
theorem dX11_again_37 : decode cX11_again 37 = .ok (.iconst 1, 1) := by decide +kernel
theorem dX11_again_38 : decode cX11_again 38 = .ok (.aload_n 0, 1) := by decide +kernel
theorem dX11_again_39 : decode cX11_again 39 = .ok (.iload_n 2, 1) := by decide +kernel
theorem dX11_again_40 : decode cX11_again 40 = .ok (.iconst 3, 1) := by decide +kernel
theorem dX11_again_41 : decode cX11_again 41 = .ok (.invokevirtual 185, 3) := by decide +kernel
theorem dX11_again_44 : decode cX11_again 44 = .ok (.invokevirtual 173, 3) := by decide +kernel
theorem dX11_again_47 : decode cX11_again 47 = .ok (.aload_n 0, 1) := by decide +kernel
theorem dX11_again_48 : decode cX11_again 48 = .ok (.iload_n 2, 1) := by decide +kernel
theorem dX11_again_49 : decode cX11_again 49 = .ok (.iconst 2, 1) := by decide +kernel
theorem dX11_again_50 : decode cX11_again 50 = .ok (.aload_n 0, 1) := by decide +kernel
theorem dX11_again_51 : decode cX11_again 51 = .ok (.iload_n 2, 1) := by decide +kernel
theorem dX11_again_52 : decode cX11_again 52 = .ok (.iconst 4, 1) := by decide +kernel
theorem dX11_again_53 : decode cX11_again 53 = .ok (.invokevirtual 185, 3) := by decide +kernel
theorem dX11_again_56 : decode cX11_again 56 = .ok (.invokevirtual 173, 3) := by decide +kernel
theorem dX11_again_59 : decode cX11_again 59 = .ok (.iinc 2 1, 3) := by decide +kernel
theorem dX11_again_62 : decode cX11_again 62 = .ok (.goto (-37), 3) := by decide +kernel
theorem dX11_again_65 : decode cX11_again 65 = .ok (.iconst 0, 1) := by decide +kernel
theorem dX11_again_66 : decode cX11_again 66 = .ok (.istore_n 2, 1) := by decide +kernel
theorem dX11_again_67 : decode cX11_again 67 = .ok (.iload_n 2, 1) := by decide +kernel
theorem dX11_again_68 : decode cX11_again 68 = .ok (.aload_n 0, 1) := by decide +kernel
theorem dX11_again_69 : decode cX11_again 69 = .ok (.getfield 7, 3) := by decide +kernel
theorem dX11_again_72 : decode cX11_again 72 = .ok (.iconst 2, 1) := by decide +kernel
theorem dX11_again_73 : decode cX11_again 73 = .ok (.iaload, 1) := by decide +kernel
theorem dX11_again_74 : decode cX11_again 74 = .ok (.if_icmp .ge 21, 3) := by decide +kernel
theorem dX11_again_77 : decode cX11_again 77 = .ok (.aload_n 0, 1) := by decide +kernel
theorem dX11_again_78 : decode cX11_again 78 = .ok (.iload_n 2, 1) := by decide +kernel
theorem dX11_again_79 : decode cX11_again 79 = .ok (.iconst 0, 1) := by decide +kernel
theorem dX11_again_80 : decode cX11_again 80 = .ok (.aload_n 0, 1) := by decide +kernel
theorem dX11_again_81 : decode cX11_again 81 = .ok (.iload_n 2, 1) := by decide +kernel
theorem dX11_again_82 : decode cX11_again 82 = .ok (.iconst 2, 1) := by decide +kernel
theorem dX11_again_83 : decode cX11_again 83 = .ok (.invokevirtual 194, 3) := by decide +kernel
theorem dX11_again_86 : decode cX11_again 86 = .ok (.invokevirtual 176, 3) := by decide +kernel
theorem dX11_again_89 : decode cX11_again 89 = .ok (.iinc 2 1, 3) := by decide +kernel
theorem dX11_again_92 : decode cX11_again 92 = .ok (.goto (-25), 3) := by decide +kernel
theorem dX11_again_95 : decode cX11_again 95 = .ok (.aload_n 0, 1) := by decide +kernel
theorem dX11_again_96 : decode cX11_again 96 = .ok (.getfield 7, 3) := by decide +kernel
theorem dX11_again_99 : decode cX11_again 99 = .ok (.iconst 3, 1) := by decide +kernel
theorem dX11_again_100 : decode cX11_again 100 = .ok (.iload_n 1, 1) := by decide +kernel
theorem dX11_again_101 : decode cX11_again 101 = .ok (.iastore, 1) := by decide +kernel
theorem dX11_again_102 : decode cX11_again 102 = .ok (.aload_n 0, 1) := by decide +kernel
theorem dX11_again_103 : decode cX11_again 103 = .ok (.getfield 7, 3) := by decide +kernel
theorem dX11_again_106 : decode cX11_again 106 = .ok (.iconst 4, 1) := by decide +kernel
theorem dX11_again_107 : decode cX11_again 107 = .ok (.iconst 0, 1) := by decide +kernel
theorem dX11_again_108 : decode cX11_again 108 = .ok (.iastore, 1) := by decide +kernel
theorem dX11_again_109 : decode cX11_again 109 = .ok (.aload_n 0, 1) := by decide +kernel
theorem dX11_again_110 : decode cX11_again 110 = .ok (.getfield 7, 3) := by decide +kernel
theorem dX11_again_113 : decode cX11_again 113 = .ok (.iconst 5, 1) := by decide +kernel
theorem dX11_again_114 : decode cX11_again 114 = .ok (.dup2, 1) := by decide +kernel
theorem dX11_again_115 : decode cX11_again 115 = .ok (.iaload, 1) := by decide +kernel
theorem dX11_again_116 : decode cX11_again 116 = .ok (.iconst 1, 1) := by decide +kernel
theorem dX11_again_117 : decode cX11_again 117 = .ok (.iadd, 1) := by decide +kernel
theorem dX11_again_118 : decode cX11_again 118 = .ok (.iastore, 1) := by decide +kernel
theorem dX11_again_119 : decode cX11_again 119 = .ok (.aload_n 0, 1) := by decide +kernel
theorem dX11_again_120 : decode cX11_again 120 = .ok (.invokevirtual 206, 3) := by decide +kernel
theorem dX11_again_123 : decode cX11_again 123 = .ok (.ireturn, 1) := by decide +kernel
theorem dX11_undo_0 : decode cX11_undo 0 = .ok (.aload_n 0, 1) := by decide +kernel
theorem dX11_undo_1 : decode cX11_undo 1 = .ok (.iconst 0, 1) := by decide +kernel
theorem dX11_undo_2 : decode cX11_undo 2 = .ok (.putfield 67, 3) := by decide +kernel
theorem dX11_undo_5 : decode cX11_undo 5 = .ok (.aload_n 0, 1) := by decide +kernel
theorem dX11_undo_6 : decode cX11_undo 6 = .ok (.aload_n 0, 1) := by decide +kernel
theorem dX11_undo_7 : decode cX11_undo 7 = .ok (.getfield 70, 3) := by decide +kernel
theorem dX11_undo_10 : decode cX11_undo 10 = .ok (.ifCond .ne 7, 3) := by decide +kernel
theorem dX11_undo_13 : decode cX11_undo 13 = .ok (.iconst 1, 1) := by decide +kernel
theorem dX11_undo_14 : decode cX11_undo 14 = .ok (.goto 4, 3) := by decide +kernel
theorem dX11_undo_17 : decode cX11_undo 17 = .ok (.iconst 0, 1) := by decide +kernel
theorem dX11_undo_18 : decode cX11_undo 18 = .ok (.iconst 1, 1) := by decide +kernel
theorem dX11_undo_19 : decode cX11_undo 19 = .ok (.invokevirtual 81, 3) := by decide +kernel
theorem dX11_undo_22 : decode cX11_undo 22 = .ok (.ifCond .eq 5, 3) := by decide +kernel
theorem dX11_undo_25 : decode cX11_undo 25 = .ok (.iconst 0, 1) := by decide +kernel
theorem dX11_undo_26 : decode cX11_undo 26 = .ok (.ireturn, 1) := by decide +kernel
theorem dX11_undo_27 : decode cX11_undo 27 = .ok (.aload_n 0, 1) := by decide +kernel
theorem dX11_undo_28 : decode cX11_undo 28 = .ok (.dup, 1) := by decide +kernel
theorem dX11_undo_29 : decode cX11_undo 29 = .ok (.getfield 70, 3) := by decide +kernel
theorem dX11_undo_32 : decode cX11_undo 32 = .ok (.iconst 1, 1) := by decide +kernel
theorem dX11_undo_33 : decode cX11_undo 33 = .ok (.isub, 1) := by decide +kernel
theorem dX11_undo_34 : decode cX11_undo 34 = .ok (.putfield 70, 3) := by decide +kernel
theorem dX11_undo_37 : decode cX11_undo 37 = .ok (.aload_n 0, 1) := by decide +kernel
theorem dX11_undo_38 : decode cX11_undo 38 = .ok (.getfield 22, 3) := by decide +kernel
theorem dX11_undo_41 : decode cX11_undo 41 = .ok (.sipush 265, 3) := by decide +kernel
theorem dX11_undo_44 : decode cX11_undo 44 = .ok (.aload_n 0, 1) := by decide +kernel
theorem dX11_undo_45 : decode cX11_undo 45 = .ok (.getfield 70, 3) := by decide +kernel
theorem dX11_undo_48 : decode cX11_undo 48 = .ok (.imul, 1) := by decide +kernel
theorem dX11_undo_49 : decode cX11_undo 49 = .ok (.aload_n 0, 1) := by decide +kernel
theorem dX11_undo_50 : decode cX11_undo 50 = .ok (.getfield 7, 3) := by decide +kernel
theorem dX11_undo_53 : decode cX11_undo 53 = .ok (.iconst 0, 1) := by decide +kernel
theorem dX11_undo_54 : decode cX11_undo 54 = .ok (.invokestatic 73, 3) := by decide +kernel
theorem dX11_undo_57 : decode cX11_undo 57 = .ok (.aload_n 0, 1) := by decide +kernel
theorem dX11_undo_58 : decode cX11_undo 58 = .ok (.getfield 70, 3) := by decide +kernel
theorem dX11_undo_61 : decode cX11_undo 61 = .ok (.ireturn, 1) := by decide +kernel
theorem dX11_write_0 : decode cX11_write 0 = .ok (.aload_n 0, 1) := by decide +kernel
theorem dX11_write_1 : decode cX11_write 1 = .ok (.getfield 54, 3) := by decide +kernel
theorem dX11_write_4 : decode cX11_write 4 = .ok (.aload_n 0, 1) := by decide +kernel
theorem dX11_write_5 : decode cX11_write 5 = .ok (.getfield 472, 3) := by decide +kernel
theorem dX11_write_8 : decode cX11_write 8 = .ok (.iload_n 1, 1) := by decide +kernel
theorem dX11_write_9 : decode cX11_write 9 = .ok (.iastore, 1) := by decide +kernel
theorem dX11_write_10 : decode cX11_write 10 = .ok (.aload_n 0, 1) := by decide +kernel
theorem dX11_write_11 : decode cX11_write 11 = .ok (.dup, 1) := by decide +kernel
theorem dX11_write_12 : decode cX11_write 12 = .ok (.getfield 472, 3) := by decide +kernel
theorem dX11_write_15 : decode cX11_write 15 = .ok (.iconst 1, 1) := by decide +kernel
theorem dX11_write_16 : decode cX11_write 16 = .ok (.iadd, 1) := by decide +kernel
theorem dX11_write_17 : decode cX11_write 17 = .ok (.putfield 472, 3) := by decide +kernel
theorem dX11_write_20 : decode cX11_write 20 = .ok (.return_, 1) := by decide +kernel
theorem dX11_writeWord_0 : decode cX11_writeWord 0 = .ok (.iconst 0, 1) := by decide +kernel
theorem dX11_writeWord_1 : decode cX11_writeWord 1 = .ok (.istore_n 2, 1) := by decide +kernel
theorem dX11_writeWord_2 : decode cX11_writeWord 2 = .ok (.iload_n 2, 1) := by decide +kernel
theorem dX11_writeWord_3 : decode cX11_writeWord 3 = .ok (.aload_n 1, 1) := by decide +kernel
theorem dX11_writeWord_4 : decode cX11_writeWord 4 = .ok (.invokevirtual 283, 3) := by decide +kernel
theorem dX11_writeWord_7 : decode cX11_writeWord 7 = .ok (.if_icmp .ge 18, 3) := by decide +kernel
theorem dX11_writeWord_10 : decode cX11_writeWord 10 = .ok (.aload_n 0, 1) := by decide +kernel
theorem dX11_writeWord_11 : decode cX11_writeWord 11 = .ok (.aload_n 1, 1) := by decide +kernel
theorem dX11_writeWord_12 : decode cX11_writeWord 12 = .ok (.iload_n 2, 1) := by decide +kernel
theorem dX11_writeWord_13 : decode cX11_writeWord 13 = .ok (.invokevirtual 288, 3) := by decide +kernel
theorem dX11_writeWord_16 : decode cX11_writeWord 16 = .ok (.invokevirtual 475, 3) := by decide +kernel
theorem dX11_writeWord_19 : decode cX11_writeWord 19 = .ok (.iinc 2 1, 3) := by decide +kernel
theorem dX11_writeWord_22 : decode cX11_writeWord 22 = .ok (.goto (-20), 3) := by decide +kernel
theorem dX11_writeWord_25 : decode cX11_writeWord 25 = .ok (.return_, 1) := by decide +kernel
theorem dX11_writeName_0 : decode cX11_writeName 0 = .ok (.iconst 0, 1) := by decide +kernel
theorem dX11_writeName_1 : decode cX11_writeName 1 = .ok (.istore_n 2, 1) := by decide +kernel
theorem dX11_writeName_2 : decode cX11_writeName 2 = .ok (.iload_n 2, 1) := by decide +kernel
theorem dX11_writeName_3 : decode cX11_writeName 3 = .ok (.aload_n 0, 1) := by decide +kernel
theorem dX11_writeName_4 : decode cX11_writeName 4 = .ok (.iload_n 1, 1) := by decide +kernel
theorem dX11_writeName_5 : decode cX11_writeName 5 = .ok (.iconst 0, 1) := by decide +kernel
theorem dX11_writeName_6 : decode cX11_writeName 6 = .ok (.invokevirtual 85, 3) := by decide +kernel
theorem dX11_writeName_9 : decode cX11_writeName 9 = .ok (.if_icmp .ge 26, 3) := by decide +kernel
theorem dX11_writeName_12 : decode cX11_writeName 12 = .ok (.aload_n 0, 1) := by decide +kernel
theorem dX11_writeName_13 : decode cX11_writeName 13 = .ok (.bipush 97, 2) := by decide +kernel
theorem dX11_writeName_15 : decode cX11_writeName 15 = .ok (.aload_n 0, 1) := by decide +kernel
theorem dX11_writeName_16 : decode cX11_writeName 16 = .ok (.iload_n 1, 1) := by decide +kernel
theorem dX11_writeName_17 : decode cX11_writeName 17 = .ok (.iconst 1, 1) := by decide +kernel
theorem dX11_writeName_18 : decode cX11_writeName 18 = .ok (.iload_n 2, 1) := by decide +kernel
theorem dX11_writeName_19 : decode cX11_writeName 19 = .ok (.iadd, 1) := by decide +kernel
theorem dX11_writeName_20 : decode cX11_writeName 20 = .ok (.invokevirtual 85, 3) := by decide +kernel
theorem dX11_writeName_23 : decode cX11_writeName 23 = .ok (.iadd, 1) := by decide +kernel
theorem dX11_writeName_24 : decode cX11_writeName 24 = .ok (.iconst 1, 1) := by decide +kernel
theorem dX11_writeName_25 : decode cX11_writeName 25 = .ok (.isub, 1) := by decide +kernel
theorem dX11_writeName_26 : decode cX11_writeName 26 = .ok (.invokevirtual 475, 3) := by decide +kernel
theorem dX11_writeName_29 : decode cX11_writeName 29 = .ok (.iinc 2 1, 3) := by decide +kernel
theorem dX11_writeName_32 : decode cX11_writeName 32 = .ok (.goto (-30), 3) := by decide +kernel
theorem dX11_writeName_35 : decode cX11_writeName 35 = .ok (.return_, 1) := by decide +kernel
theorem dX11_writeNumber_0 : decode cX11_writeNumber 0 = .ok (.iload_n 1, 1) := by decide +kernel
theorem dX11_writeNumber_1 : decode cX11_writeNumber 1 = .ok (.bipush 9, 2) := by decide +kernel
theorem dX11_writeNumber_3 : decode cX11_writeNumber 3 = .ok (.if_icmp .le 14, 3) := by decide +kernel
theorem dX11_writeNumber_6 : decode cX11_writeNumber 6 = .ok (.aload_n 0, 1) := by decide +kernel
theorem dX11_writeNumber_7 : decode cX11_writeNumber 7 = .ok (.bipush 48, 2) := by decide +kernel
theorem dX11_writeNumber_9 : decode cX11_writeNumber 9 = .ok (.iload_n 1, 1) := by decide +kernel
theorem dX11_writeNumber_10 : decode cX11_writeNumber 10 = .ok (.bipush 10, 2) := by decide +kernel
theorem dX11_writeNumber_12 : decode cX11_writeNumber 12 = .ok (.idiv, 1) := by decide +kernel
theorem dX11_writeNumber_13 : decode cX11_writeNumber 13 = .ok (.iadd, 1) := by decide +kernel
theorem dX11_writeNumber_14 : decode cX11_writeNumber 14 = .ok (.invokevirtual 475, 3) := by decide +kernel
theorem dX11_writeNumber_17 : decode cX11_writeNumber 17 = .ok (.aload_n 0, 1) := by decide +kernel
theorem dX11_writeNumber_18 : decode cX11_writeNumber 18 = .ok (.bipush 48, 2) := by decide +kernel
theorem dX11_writeNumber_20 : decode cX11_writeNumber 20 = .ok (.iload_n 1, 1) := by decide +kernel
theorem dX11_writeNumber_21 : decode cX11_writeNumber 21 = .ok (.bipush 10, 2) := by decide +kernel
theorem dX11_writeNumber_23 : decode cX11_writeNumber 23 = .ok (.irem, 1) := by decide +kernel
theorem dX11_writeNumber_24 : decode cX11_writeNumber 24 = .ok (.iadd, 1) := by decide +kernel
theorem dX11_writeNumber_25 : decode cX11_writeNumber 25 = .ok (.invokevirtual 475, 3) := by decide +kernel
theorem dX11_writeNumber_28 : decode cX11_writeNumber 28 = .ok (.return_, 1) := by decide +kernel
theorem dX11_writeSpaced_0 : decode cX11_writeSpaced 0 = .ok (.aload_n 0, 1) := by decide +kernel
theorem dX11_writeSpaced_1 : decode cX11_writeSpaced 1 = .ok (.bipush 32, 2) := by decide +kernel
theorem dX11_writeSpaced_3 : decode cX11_writeSpaced 3 = .ok (.invokevirtual 475, 3) := by decide +kernel
theorem dX11_writeSpaced_6 : decode cX11_writeSpaced 6 = .ok (.aload_n 0, 1) := by decide +kernel
theorem dX11_writeSpaced_7 : decode cX11_writeSpaced 7 = .ok (.iload_n 1, 1) := by decide +kernel
theorem dX11_writeSpaced_8 : decode cX11_writeSpaced 8 = .ok (.invokevirtual 478, 3) := by decide +kernel
theorem dX11_writeSpaced_11 : decode cX11_writeSpaced 11 = .ok (.return_, 1) := by decide +kernel
theorem dX11_writePart_0 : decode cX11_writePart 0 = .ok (.aload_n 0, 1) := by decide +kernel
theorem dX11_writePart_1 : decode cX11_writePart 1 = .ok (.iload_n 1, 1) := by decide +kernel
theorem dX11_writePart_2 : decode cX11_writePart 2 = .ok (.invokevirtual 182, 3) := by decide +kernel
theorem dX11_writePart_5 : decode cX11_writePart 5 = .ok (.ifCond .eq 46, 3) := by decide +kernel
theorem dX11_writePart_8 : decode cX11_writePart 8 = .ok (.aload_n 0, 1) := by decide +kernel
theorem dX11_writePart_9 : decode cX11_writePart 9 = .ok (.aload_n 0, 1) := by decide +kernel
theorem dX11_writePart_10 : decode cX11_writePart 10 = .ok (.iload_n 1, 1) := by decide +kernel
theorem dX11_writePart_11 : decode cX11_writePart 11 = .ok (.iconst 0, 1) := by decide +kernel
theorem dX11_writePart_12 : decode cX11_writePart 12 = .ok (.invokevirtual 185, 3) := by decide +kernel
theorem dX11_writePart_15 : decode cX11_writePart 15 = .ok (.invokevirtual 481, 3) := by decide +kernel
theorem dX11_writePart_18 : decode cX11_writePart 18 = .ok (.aload_n 0, 1) := by decide +kernel
theorem dX11_writePart_19 : decode cX11_writePart 19 = .ok (.bipush 58, 2) := by decide +kernel
theorem dX11_writePart_21 : decode cX11_writePart 21 = .ok (.invokevirtual 475, 3) := by decide +kernel
theorem dX11_writePart_24 : decode cX11_writePart 24 = .ok (.aload_n 0, 1) := by decide +kernel
theorem dX11_writePart_25 : decode cX11_writePart 25 = .ok (.aload_n 0, 1) := by decide +kernel
theorem dX11_writePart_26 : decode cX11_writePart 26 = .ok (.iload_n 1, 1) := by decide +kernel
theorem dX11_writePart_27 : decode cX11_writePart 27 = .ok (.iconst 1, 1) := by decide +kernel
theorem dX11_writePart_28 : decode cX11_writePart 28 = .ok (.invokevirtual 185, 3) := by decide +kernel
theorem dX11_writePart_31 : decode cX11_writePart 31 = .ok (.invokevirtual 478, 3) := by decide +kernel
theorem dX11_writePart_34 : decode cX11_writePart 34 = .ok (.aload_n 0, 1) := by decide +kernel
theorem dX11_writePart_35 : decode cX11_writePart 35 = .ok (.bipush 44, 2) := by decide +kernel
theorem dX11_writePart_37 : decode cX11_writePart 37 = .ok (.invokevirtual 475, 3) := by decide +kernel
theorem dX11_writePart_40 : decode cX11_writePart 40 = .ok (.aload_n 0, 1) := by decide +kernel
theorem dX11_writePart_41 : decode cX11_writePart 41 = .ok (.aload_n 0, 1) := by decide +kernel
theorem dX11_writePart_42 : decode cX11_writePart 42 = .ok (.iload_n 1, 1) := by decide +kernel
theorem dX11_writePart_43 : decode cX11_writePart 43 = .ok (.iconst 2, 1) := by decide +kernel
theorem dX11_writePart_44 : decode cX11_writePart 44 = .ok (.invokevirtual 185, 3) := by decide +kernel
theorem dX11_writePart_47 : decode cX11_writePart 47 = .ok (.invokevirtual 478, 3) := by decide +kernel
theorem dX11_writePart_50 : decode cX11_writePart 50 = .ok (.return_, 1) := by decide +kernel
theorem dX11_writePart_51 : decode cX11_writePart 51 = .ok (.aload_n 0, 1) := by decide +kernel
theorem dX11_writePart_52 : decode cX11_writePart 52 = .ok (.aload_n 0, 1) := by decide +kernel
theorem dX11_writePart_53 : decode cX11_writePart 53 = .ok (.aload_n 0, 1) := by decide +kernel
theorem dX11_writePart_54 : decode cX11_writePart 54 = .ok (.iload_n 1, 1) := by decide +kernel
theorem dX11_writePart_55 : decode cX11_writePart 55 = .ok (.invokevirtual 191, 3) := by decide +kernel
theorem dX11_writePart_58 : decode cX11_writePart 58 = .ok (.iconst 0, 1) := by decide +kernel
theorem dX11_writePart_59 : decode cX11_writePart 59 = .ok (.invokevirtual 194, 3) := by decide +kernel
theorem dX11_writePart_62 : decode cX11_writePart 62 = .ok (.invokevirtual 478, 3) := by decide +kernel
theorem dX11_writePart_65 : decode cX11_writePart 65 = .ok (.aload_n 0, 1) := by decide +kernel
theorem dX11_writePart_66 : decode cX11_writePart 66 = .ok (.bipush 47, 2) := by decide +kernel
theorem dX11_writePart_68 : decode cX11_writePart 68 = .ok (.invokevirtual 475, 3) := by decide +kernel
theorem dX11_writePart_71 : decode cX11_writePart 71 = .ok (.aload_n 0, 1) := by decide +kernel
theorem dX11_writePart_72 : decode cX11_writePart 72 = .ok (.aload_n 0, 1) := by decide +kernel
theorem dX11_writePart_73 : decode cX11_writePart 73 = .ok (.aload_n 0, 1) := by decide +kernel
theorem dX11_writePart_74 : decode cX11_writePart 74 = .ok (.iload_n 1, 1) := by decide +kernel
theorem dX11_writePart_75 : decode cX11_writePart 75 = .ok (.invokevirtual 191, 3) := by decide +kernel
theorem dX11_writePart_78 : decode cX11_writePart 78 = .ok (.iconst 1, 1) := by decide +kernel
theorem dX11_writePart_79 : decode cX11_writePart 79 = .ok (.invokevirtual 194, 3) := by decide +kernel
theorem dX11_writePart_82 : decode cX11_writePart 82 = .ok (.invokevirtual 478, 3) := by decide +kernel
theorem dX11_writePart_85 : decode cX11_writePart 85 = .ok (.return_, 1) := by decide +kernel
theorem dX11_printParts_0 : decode cX11_printParts 0 = .ok (.aload_n 0, 1) := by decide +kernel
theorem dX11_printParts_1 : decode cX11_printParts 1 = .ok (.iconst 0, 1) := by decide +kernel
theorem dX11_printParts_2 : decode cX11_printParts 2 = .ok (.putfield 67, 3) := by decide +kernel
theorem dX11_printParts_5 : decode cX11_printParts 5 = .ok (.aload_n 0, 1) := by decide +kernel
theorem dX11_printParts_6 : decode cX11_printParts 6 = .ok (.iconst 0, 1) := by decide +kernel
theorem dX11_printParts_7 : decode cX11_printParts 7 = .ok (.putfield 472, 3) := by decide +kernel
theorem dX11_printParts_10 : decode cX11_printParts 10 = .ok (.iconst 0, 1) := by decide +kernel
theorem dX11_printParts_11 : decode cX11_printParts 11 = .ok (.istore_n 1, 1) := by decide +kernel
theorem dX11_printParts_12 : decode cX11_printParts 12 = .ok (.iload_n 1, 1) := by decide +kernel
theorem dX11_printParts_13 : decode cX11_printParts 13 = .ok (.aload_n 0, 1) := by decide +kernel
theorem dX11_printParts_14 : decode cX11_printParts 14 = .ok (.invokevirtual 179, 3) := by decide +kernel
theorem dX11_printParts_17 : decode cX11_printParts 17 = .ok (.if_icmp .ge 24, 3) := by decide +kernel
theorem dX11_printParts_20 : decode cX11_printParts 20 = .ok (.iload_n 1, 1) := by decide +kernel
theorem dX11_printParts_21 : decode cX11_printParts 21 = .ok (.ifCond .le 9, 3) := by decide +kernel
theorem dX11_printParts_24 : decode cX11_printParts 24 = .ok (.aload_n 0, 1) := by decide +kernel
theorem dX11_printParts_25 : decode cX11_printParts 25 = .ok (.bipush 32, 2) := by decide +kernel
theorem dX11_printParts_27 : decode cX11_printParts 27 = .ok (.invokevirtual 475, 3) := by decide +kernel
theorem dX11_printParts_30 : decode cX11_printParts 30 = .ok (.aload_n 0, 1) := by decide +kernel
theorem dX11_printParts_31 : decode cX11_printParts 31 = .ok (.iload_n 1, 1) := by decide +kernel
theorem dX11_printParts_32 : decode cX11_printParts 32 = .ok (.invokevirtual 484, 3) := by decide +kernel
theorem dX11_printParts_35 : decode cX11_printParts 35 = .ok (.iinc 1 1, 3) := by decide +kernel
theorem dX11_printParts_38 : decode cX11_printParts 38 = .ok (.goto (-26), 3) := by decide +kernel
theorem dX11_printParts_41 : decode cX11_printParts 41 = .ok (.aload_n 0, 1) := by decide +kernel
theorem dX11_printParts_42 : decode cX11_printParts 42 = .ok (.getfield 472, 3) := by decide +kernel
theorem dX11_printParts_45 : decode cX11_printParts 45 = .ok (.ireturn, 1) := by decide +kernel
theorem dX11_printRule_0 : decode cX11_printRule 0 = .ok (.aload_n 0, 1) := by decide +kernel
theorem dX11_printRule_1 : decode cX11_printRule 1 = .ok (.iconst 0, 1) := by decide +kernel
theorem dX11_printRule_2 : decode cX11_printRule 2 = .ok (.putfield 67, 3) := by decide +kernel
theorem dX11_printRule_5 : decode cX11_printRule 5 = .ok (.aload_n 0, 1) := by decide +kernel
theorem dX11_printRule_6 : decode cX11_printRule 6 = .ok (.iload_n 1, 1) := by decide +kernel
theorem dX11_printRule_7 : decode cX11_printRule 7 = .ok (.invokevirtual 402, 3) := by decide +kernel
theorem dX11_printRule_10 : decode cX11_printRule 10 = .ok (.ifCond .eq 5, 3) := by decide +kernel
theorem dX11_printRule_13 : decode cX11_printRule 13 = .ok (.iconst 0, 1) := by decide +kernel
theorem dX11_printRule_14 : decode cX11_printRule 14 = .ok (.ireturn, 1) := by decide +kernel
theorem dX11_printRule_15 : decode cX11_printRule 15 = .ok (.aload_n 0, 1) := by decide +kernel
theorem dX11_printRule_16 : decode cX11_printRule 16 = .ok (.iconst 0, 1) := by decide +kernel
theorem dX11_printRule_17 : decode cX11_printRule 17 = .ok (.putfield 472, 3) := by decide +kernel
theorem dX11_printRule_20 : decode cX11_printRule 20 = .ok (.aload_n 0, 1) := by decide +kernel
theorem dX11_printRule_21 : decode cX11_printRule 21 = .ok (.ldc_w 487, 3) := by decide +kernel
theorem dX11_printRule_24 : decode cX11_printRule 24 = .ok (.invokevirtual 489, 3) := by decide +kernel
theorem dX11_printRule_27 : decode cX11_printRule 27 = .ok (.aload_n 0, 1) := by decide +kernel
theorem dX11_printRule_28 : decode cX11_printRule 28 = .ok (.iload_n 1, 1) := by decide +kernel
theorem dX11_printRule_29 : decode cX11_printRule 29 = .ok (.invokevirtual 481, 3) := by decide +kernel
theorem dX11_printRule_32 : decode cX11_printRule 32 = .ok (.aload_n 0, 1) := by decide +kernel
theorem dX11_printRule_33 : decode cX11_printRule 33 = .ok (.iload_n 1, 1) := by decide +kernel
theorem dX11_printRule_34 : decode cX11_printRule 34 = .ok (.bipush 9, 2) := by decide +kernel
theorem dX11_printRule_36 : decode cX11_printRule 36 = .ok (.invokevirtual 85, 3) := by decide +kernel
theorem dX11_printRule_39 : decode cX11_printRule 39 = .ok (.ifCond .le 10, 3) := by decide +kernel
theorem dX11_printRule_42 : decode cX11_printRule 42 = .ok (.aload_n 0, 1) := by decide +kernel
theorem dX11_printRule_43 : decode cX11_printRule 43 = .ok (.ldc_w 493, 3) := by decide +kernel
theorem dX11_printRule_46 : decode cX11_printRule 46 = .ok (.invokevirtual 489, 3) := by decide +kernel
theorem dX11_printRule_49 : decode cX11_printRule 49 = .ok (.iconst 0, 1) := by decide +kernel
theorem dX11_printRule_50 : decode cX11_printRule 50 = .ok (.istore_n 2, 1) := by decide +kernel
theorem dX11_printRule_51 : decode cX11_printRule 51 = .ok (.iload_n 2, 1) := by decide +kernel
theorem dX11_printRule_52 : decode cX11_printRule 52 = .ok (.aload_n 0, 1) := by decide +kernel
theorem dX11_printRule_53 : decode cX11_printRule 53 = .ok (.iload_n 1, 1) := by decide +kernel
theorem dX11_printRule_54 : decode cX11_printRule 54 = .ok (.bipush 9, 2) := by decide +kernel
theorem dX11_printRule_56 : decode cX11_printRule 56 = .ok (.invokevirtual 85, 3) := by decide +kernel
theorem dX11_printRule_59 : decode cX11_printRule 59 = .ok (.if_icmp .ge 22, 3) := by decide +kernel
theorem dX11_printRule_62 : decode cX11_printRule 62 = .ok (.aload_n 0, 1) := by decide +kernel
theorem dX11_printRule_63 : decode cX11_printRule 63 = .ok (.aload_n 0, 1) := by decide +kernel
theorem dX11_printRule_64 : decode cX11_printRule 64 = .ok (.iload_n 1, 1) := by decide +kernel
theorem dX11_printRule_65 : decode cX11_printRule 65 = .ok (.bipush 10, 2) := by decide +kernel
theorem dX11_printRule_67 : decode cX11_printRule 67 = .ok (.iload_n 2, 1) := by decide +kernel
theorem dX11_printRule_68 : decode cX11_printRule 68 = .ok (.iadd, 1) := by decide +kernel
theorem dX11_printRule_69 : decode cX11_printRule 69 = .ok (.invokevirtual 85, 3) := by decide +kernel
theorem dX11_printRule_72 : decode cX11_printRule 72 = .ok (.invokevirtual 495, 3) := by decide +kernel
theorem dX11_printRule_75 : decode cX11_printRule 75 = .ok (.iinc 2 1, 3) := by decide +kernel
theorem dX11_printRule_78 : decode cX11_printRule 78 = .ok (.goto (-27), 3) := by decide +kernel
theorem dX11_printRule_81 : decode cX11_printRule 81 = .ok (.aload_n 0, 1) := by decide +kernel
theorem dX11_printRule_82 : decode cX11_printRule 82 = .ok (.ldc_w 498, 3) := by decide +kernel
theorem dX11_printRule_85 : decode cX11_printRule 85 = .ok (.invokevirtual 489, 3) := by decide +kernel
theorem dX11_printRule_88 : decode cX11_printRule 88 = .ok (.aload_n 0, 1) := by decide +kernel
theorem dX11_printRule_89 : decode cX11_printRule 89 = .ok (.aload_n 0, 1) := by decide +kernel
theorem dX11_printRule_90 : decode cX11_printRule 90 = .ok (.iload_n 1, 1) := by decide +kernel
theorem dX11_printRule_91 : decode cX11_printRule 91 = .ok (.bipush 18, 2) := by decide +kernel
theorem dX11_printRule_93 : decode cX11_printRule 93 = .ok (.invokevirtual 85, 3) := by decide +kernel
theorem dX11_printRule_96 : decode cX11_printRule 96 = .ok (.invokevirtual 495, 3) := by decide +kernel
theorem dX11_printRule_99 : decode cX11_printRule 99 = .ok (.aload_n 0, 1) := by decide +kernel
theorem dX11_printRule_100 : decode cX11_printRule 100 = .ok (.ldc_w 500, 3) := by decide +kernel
theorem dX11_printRule_103 : decode cX11_printRule 103 = .ok (.invokevirtual 489, 3) := by decide +kernel
theorem dX11_printRule_106 : decode cX11_printRule 106 = .ok (.aload_n 0, 1) := by decide +kernel
theorem dX11_printRule_107 : decode cX11_printRule 107 = .ok (.aload_n 0, 1) := by decide +kernel
theorem dX11_printRule_108 : decode cX11_printRule 108 = .ok (.iload_n 1, 1) := by decide +kernel
theorem dX11_printRule_109 : decode cX11_printRule 109 = .ok (.bipush 19, 2) := by decide +kernel
theorem dX11_printRule_111 : decode cX11_printRule 111 = .ok (.invokevirtual 85, 3) := by decide +kernel
theorem dX11_printRule_114 : decode cX11_printRule 114 = .ok (.invokevirtual 495, 3) := by decide +kernel
theorem dX11_printRule_117 : decode cX11_printRule 117 = .ok (.iconst 0, 1) := by decide +kernel
theorem dX11_printRule_118 : decode cX11_printRule 118 = .ok (.istore_n 2, 1) := by decide +kernel
theorem dX11_printRule_119 : decode cX11_printRule 119 = .ok (.iload_n 2, 1) := by decide +kernel
theorem dX11_printRule_120 : decode cX11_printRule 120 = .ok (.aload_n 0, 1) := by decide +kernel
theorem dX11_printRule_121 : decode cX11_printRule 121 = .ok (.iload_n 1, 1) := by decide +kernel
theorem dX11_printRule_122 : decode cX11_printRule 122 = .ok (.bipush 20, 2) := by decide +kernel
theorem dX11_printRule_124 : decode cX11_printRule 124 = .ok (.invokevirtual 85, 3) := by decide +kernel
theorem dX11_printRule_127 : decode cX11_printRule 127 = .ok (.if_icmp .ge 48, 3) := by decide +kernel
theorem dX11_printRule_130 : decode cX11_printRule 130 = .ok (.aload_n 0, 1) := by decide +kernel
theorem dX11_printRule_131 : decode cX11_printRule 131 = .ok (.ldc_w 502, 3) := by decide +kernel
theorem dX11_printRule_134 : decode cX11_printRule 134 = .ok (.invokevirtual 489, 3) := by decide +kernel
theorem dX11_printRule_137 : decode cX11_printRule 137 = .ok (.aload_n 0, 1) := by decide +kernel
theorem dX11_printRule_138 : decode cX11_printRule 138 = .ok (.aload_n 0, 1) := by decide +kernel
theorem dX11_printRule_139 : decode cX11_printRule 139 = .ok (.iload_n 1, 1) := by decide +kernel
theorem dX11_printRule_140 : decode cX11_printRule 140 = .ok (.bipush 21, 2) := by decide +kernel
theorem dX11_printRule_142 : decode cX11_printRule 142 = .ok (.iconst 2, 1) := by decide +kernel
theorem dX11_printRule_143 : decode cX11_printRule 143 = .ok (.iload_n 2, 1) := by decide +kernel
theorem dX11_printRule_144 : decode cX11_printRule 144 = .ok (.imul, 1) := by decide +kernel
theorem dX11_printRule_145 : decode cX11_printRule 145 = .ok (.iadd, 1) := by decide +kernel
theorem dX11_printRule_146 : decode cX11_printRule 146 = .ok (.invokevirtual 85, 3) := by decide +kernel
theorem dX11_printRule_149 : decode cX11_printRule 149 = .ok (.invokevirtual 495, 3) := by decide +kernel
theorem dX11_printRule_152 : decode cX11_printRule 152 = .ok (.aload_n 0, 1) := by decide +kernel
theorem dX11_printRule_153 : decode cX11_printRule 153 = .ok (.aload_n 0, 1) := by decide +kernel
theorem dX11_printRule_154 : decode cX11_printRule 154 = .ok (.iload_n 1, 1) := by decide +kernel
theorem dX11_printRule_155 : decode cX11_printRule 155 = .ok (.bipush 21, 2) := by decide +kernel
theorem dX11_printRule_157 : decode cX11_printRule 157 = .ok (.iconst 2, 1) := by decide +kernel
theorem dX11_printRule_158 : decode cX11_printRule 158 = .ok (.iload_n 2, 1) := by decide +kernel
theorem dX11_printRule_159 : decode cX11_printRule 159 = .ok (.imul, 1) := by decide +kernel
theorem dX11_printRule_160 : decode cX11_printRule 160 = .ok (.iadd, 1) := by decide +kernel
theorem dX11_printRule_161 : decode cX11_printRule 161 = .ok (.iconst 1, 1) := by decide +kernel
theorem dX11_printRule_162 : decode cX11_printRule 162 = .ok (.iadd, 1) := by decide +kernel
theorem dX11_printRule_163 : decode cX11_printRule 163 = .ok (.invokevirtual 85, 3) := by decide +kernel
theorem dX11_printRule_166 : decode cX11_printRule 166 = .ok (.invokevirtual 495, 3) := by decide +kernel
theorem dX11_printRule_169 : decode cX11_printRule 169 = .ok (.iinc 2 1, 3) := by decide +kernel
theorem dX11_printRule_172 : decode cX11_printRule 172 = .ok (.goto (-53), 3) := by decide +kernel
theorem dX11_printRule_175 : decode cX11_printRule 175 = .ok (.aload_n 0, 1) := by decide +kernel
theorem dX11_printRule_176 : decode cX11_printRule 176 = .ok (.getfield 472, 3) := by decide +kernel
theorem dX11_printRule_179 : decode cX11_printRule 179 = .ok (.ireturn, 1) := by decide +kernel
theorem dX11_outputByte_0 : decode cX11_outputByte 0 = .ok (.aload_n 0, 1) := by decide +kernel
theorem dX11_outputByte_1 : decode cX11_outputByte 1 = .ok (.iconst 0, 1) := by decide +kernel
theorem dX11_outputByte_2 : decode cX11_outputByte 2 = .ok (.putfield 67, 3) := by decide +kernel
theorem dX11_outputByte_5 : decode cX11_outputByte 5 = .ok (.iload_n 1, 1) := by decide +kernel
theorem dX11_outputByte_6 : decode cX11_outputByte 6 = .ok (.iconst 0, 1) := by decide +kernel
theorem dX11_outputByte_7 : decode cX11_outputByte 7 = .ok (.aload_n 0, 1) := by decide +kernel
theorem dX11_outputByte_8 : decode cX11_outputByte 8 = .ok (.getfield 472, 3) := by decide +kernel
theorem dX11_outputByte_11 : decode cX11_outputByte 11 = .ok (.iconst 1, 1) := by decide +kernel
theorem dX11_outputByte_12 : decode cX11_outputByte 12 = .ok (.isub, 1) := by decide +kernel
theorem dX11_outputByte_13 : decode cX11_outputByte 13 = .ok (.invokestatic 77, 3) := by decide +kernel
theorem dX11_outputByte_16 : decode cX11_outputByte 16 = .ok (.ifCond .eq 12, 3) := by decide +kernel
theorem dX11_outputByte_19 : decode cX11_outputByte 19 = .ok (.aload_n 0, 1) := by decide +kernel
theorem dX11_outputByte_20 : decode cX11_outputByte 20 = .ok (.getfield 54, 3) := by decide +kernel
theorem dX11_outputByte_23 : decode cX11_outputByte 23 = .ok (.iload_n 1, 1) := by decide +kernel
theorem dX11_outputByte_24 : decode cX11_outputByte 24 = .ok (.iaload, 1) := by decide +kernel
theorem dX11_outputByte_25 : decode cX11_outputByte 25 = .ok (.goto 4, 3) := by decide +kernel
theorem dX11_outputByte_28 : decode cX11_outputByte 28 = .ok (.iconst (-1), 1) := by decide +kernel
theorem dX11_outputByte_29 : decode cX11_outputByte 29 = .ok (.ireturn, 1) := by decide +kernel
theorem dX11_noSlot_0 : decode cX11_noSlot 0 = .ok (.aload_n 0, 1) := by decide +kernel
theorem dX11_noSlot_1 : decode cX11_noSlot 1 = .ok (.iload_n 1, 1) := by decide +kernel
theorem dX11_noSlot_2 : decode cX11_noSlot 2 = .ok (.iconst 0, 1) := by decide +kernel
theorem dX11_noSlot_3 : decode cX11_noSlot 3 = .ok (.iconst 1, 1) := by decide +kernel
theorem dX11_noSlot_4 : decode cX11_noSlot 4 = .ok (.invokestatic 77, 3) := by decide +kernel
theorem dX11_noSlot_7 : decode cX11_noSlot 7 = .ok (.ifCond .ne 7, 3) := by decide +kernel
theorem dX11_noSlot_10 : decode cX11_noSlot 10 = .ok (.iconst 1, 1) := by decide +kernel
theorem dX11_noSlot_11 : decode cX11_noSlot 11 = .ok (.goto 4, 3) := by decide +kernel
theorem dX11_noSlot_14 : decode cX11_noSlot 14 = .ok (.iconst 0, 1) := by decide +kernel
theorem dX11_noSlot_15 : decode cX11_noSlot 15 = .ok (.iconst 1, 1) := by decide +kernel
theorem dX11_noSlot_16 : decode cX11_noSlot 16 = .ok (.invokevirtual 81, 3) := by decide +kernel
theorem dX11_noSlot_19 : decode cX11_noSlot 19 = .ok (.ireturn, 1) := by decide +kernel
theorem dX11_keep_0 : decode cX11_keep 0 = .ok (.aload_n 0, 1) := by decide +kernel
theorem dX11_keep_1 : decode cX11_keep 1 = .ok (.iconst 0, 1) := by decide +kernel
theorem dX11_keep_2 : decode cX11_keep 2 = .ok (.putfield 67, 3) := by decide +kernel
theorem dX11_keep_5 : decode cX11_keep 5 = .ok (.aload_n 0, 1) := by decide +kernel
theorem dX11_keep_6 : decode cX11_keep 6 = .ok (.iload_n 1, 1) := by decide +kernel
theorem dX11_keep_7 : decode cX11_keep 7 = .ok (.invokevirtual 504, 3) := by decide +kernel
theorem dX11_keep_10 : decode cX11_keep 10 = .ok (.ifCond .eq 5, 3) := by decide +kernel
theorem dX11_keep_13 : decode cX11_keep 13 = .ok (.iconst 0, 1) := by decide +kernel
theorem dX11_keep_14 : decode cX11_keep 14 = .ok (.ireturn, 1) := by decide +kernel
theorem dX11_keep_15 : decode cX11_keep 15 = .ok (.aload_n 0, 1) := by decide +kernel
theorem dX11_keep_16 : decode cX11_keep 16 = .ok (.getfield 7, 3) := by decide +kernel
theorem dX11_keep_19 : decode cX11_keep 19 = .ok (.iconst 0, 1) := by decide +kernel
theorem dX11_keep_20 : decode cX11_keep 20 = .ok (.aload_n 0, 1) := by decide +kernel
theorem dX11_keep_21 : decode cX11_keep 21 = .ok (.getfield 19, 3) := by decide +kernel
theorem dX11_keep_24 : decode cX11_keep 24 = .ok (.sipush 265, 3) := by decide +kernel
theorem dX11_keep_27 : decode cX11_keep 27 = .ok (.iload_n 1, 1) := by decide +kernel
theorem dX11_keep_28 : decode cX11_keep 28 = .ok (.imul, 1) := by decide +kernel
theorem dX11_keep_29 : decode cX11_keep 29 = .ok (.invokestatic 73, 3) := by decide +kernel
theorem dX11_keep_32 : decode cX11_keep 32 = .ok (.aload_n 0, 1) := by decide +kernel
theorem dX11_keep_33 : decode cX11_keep 33 = .ok (.dup, 1) := by decide +kernel
theorem dX11_keep_34 : decode cX11_keep 34 = .ok (.getfield 386, 3) := by decide +kernel
theorem dX11_keep_37 : decode cX11_keep 37 = .ok (.iconst 1, 1) := by decide +kernel
theorem dX11_keep_38 : decode cX11_keep 38 = .ok (.iload_n 1, 1) := by decide +kernel
theorem dX11_keep_39 : decode cX11_keep 39 = .ok (.ishl, 1) := by decide +kernel
theorem dX11_keep_40 : decode cX11_keep 40 = .ok (.ior, 1) := by decide +kernel
theorem dX11_keep_41 : decode cX11_keep 41 = .ok (.putfield 386, 3) := by decide +kernel
theorem dX11_keep_44 : decode cX11_keep 44 = .ok (.aload_n 0, 1) := by decide +kernel
theorem dX11_keep_45 : decode cX11_keep 45 = .ok (.getfield 7, 3) := by decide +kernel
theorem dX11_keep_48 : decode cX11_keep 48 = .ok (.iconst 4, 1) := by decide +kernel
theorem dX11_keep_49 : decode cX11_keep 49 = .ok (.iaload, 1) := by decide +kernel
theorem dX11_keep_50 : decode cX11_keep 50 = .ok (.ireturn, 1) := by decide +kernel
theorem dX11_bringBack_0 : decode cX11_bringBack 0 = .ok (.aload_n 0, 1) := by decide +kernel
theorem dX11_bringBack_1 : decode cX11_bringBack 1 = .ok (.iconst 0, 1) := by decide +kernel
theorem dX11_bringBack_2 : decode cX11_bringBack 2 = .ok (.putfield 67, 3) := by decide +kernel
theorem dX11_bringBack_5 : decode cX11_bringBack 5 = .ok (.aload_n 0, 1) := by decide +kernel
theorem dX11_bringBack_6 : decode cX11_bringBack 6 = .ok (.iload_n 1, 1) := by decide +kernel
theorem dX11_bringBack_7 : decode cX11_bringBack 7 = .ok (.invokevirtual 504, 3) := by decide +kernel
theorem dX11_bringBack_10 : decode cX11_bringBack 10 = .ok (.ifCond .ne 27, 3) := by decide +kernel
theorem dX11_bringBack_13 : decode cX11_bringBack 13 = .ok (.aload_n 0, 1) := by decide +kernel
theorem dX11_bringBack_14 : decode cX11_bringBack 14 = .ok (.aload_n 0, 1) := by decide +kernel
theorem dX11_bringBack_15 : decode cX11_bringBack 15 = .ok (.getfield 386, 3) := by decide +kernel
theorem dX11_bringBack_18 : decode cX11_bringBack 18 = .ok (.iload_n 1, 1) := by decide +kernel
theorem dX11_bringBack_19 : decode cX11_bringBack 19 = .ok (.ishr, 1) := by decide +kernel
theorem dX11_bringBack_20 : decode cX11_bringBack 20 = .ok (.iconst 1, 1) := by decide +kernel
theorem dX11_bringBack_21 : decode cX11_bringBack 21 = .ok (.iand, 1) := by decide +kernel
theorem dX11_bringBack_22 : decode cX11_bringBack 22 = .ok (.ifCond .ne 7, 3) := by decide +kernel
theorem dX11_bringBack_25 : decode cX11_bringBack 25 = .ok (.iconst 1, 1) := by decide +kernel
theorem dX11_bringBack_26 : decode cX11_bringBack 26 = .ok (.goto 4, 3) := by decide +kernel
theorem dX11_bringBack_29 : decode cX11_bringBack 29 = .ok (.iconst 0, 1) := by decide +kernel
theorem dX11_bringBack_30 : decode cX11_bringBack 30 = .ok (.iconst 2, 1) := by decide +kernel
theorem dX11_bringBack_31 : decode cX11_bringBack 31 = .ok (.invokevirtual 81, 3) := by decide +kernel
theorem dX11_bringBack_34 : decode cX11_bringBack 34 = .ok (.ifCond .eq 5, 3) := by decide +kernel
theorem dX11_bringBack_37 : decode cX11_bringBack 37 = .ok (.iconst 0, 1) := by decide +kernel
theorem dX11_bringBack_38 : decode cX11_bringBack 38 = .ok (.ireturn, 1) := by decide +kernel
theorem dX11_bringBack_39 : decode cX11_bringBack 39 = .ok (.aload_n 0, 1) := by decide +kernel
theorem dX11_bringBack_40 : decode cX11_bringBack 40 = .ok (.getfield 19, 3) := by decide +kernel
theorem dX11_bringBack_43 : decode cX11_bringBack 43 = .ok (.sipush 265, 3) := by decide +kernel
theorem dX11_bringBack_46 : decode cX11_bringBack 46 = .ok (.iload_n 1, 1) := by decide +kernel
theorem dX11_bringBack_47 : decode cX11_bringBack 47 = .ok (.imul, 1) := by decide +kernel
theorem dX11_bringBack_48 : decode cX11_bringBack 48 = .ok (.aload_n 0, 1) := by decide +kernel
theorem dX11_bringBack_49 : decode cX11_bringBack 49 = .ok (.getfield 7, 3) := by decide +kernel
theorem dX11_bringBack_52 : decode cX11_bringBack 52 = .ok (.iconst 0, 1) := by decide +kernel
theorem dX11_bringBack_53 : decode cX11_bringBack 53 = .ok (.invokestatic 73, 3) := by decide +kernel
theorem dX11_bringBack_56 : decode cX11_bringBack 56 = .ok (.aload_n 0, 1) := by decide +kernel
theorem dX11_bringBack_57 : decode cX11_bringBack 57 = .ok (.iconst 0, 1) := by decide +kernel
theorem dX11_bringBack_58 : decode cX11_bringBack 58 = .ok (.putfield 70, 3) := by decide +kernel
theorem dX11_bringBack_61 : decode cX11_bringBack 61 = .ok (.aload_n 0, 1) := by decide +kernel
theorem dX11_bringBack_62 : decode cX11_bringBack 62 = .ok (.getfield 7, 3) := by decide +kernel
theorem dX11_bringBack_65 : decode cX11_bringBack 65 = .ok (.iconst 4, 1) := by decide +kernel
theorem dX11_bringBack_66 : decode cX11_bringBack 66 = .ok (.iaload, 1) := by decide +kernel
theorem dX11_bringBack_67 : decode cX11_bringBack 67 = .ok (.ireturn, 1) := by decide +kernel
theorem dJ13_bitCount_95d88_0 : decode cJ13_bitCount_95d88 0 = .ok (.lload_n 0, 1) := by decide +kernel
theorem dJ13_bitCount_95d88_1 : decode cJ13_bitCount_95d88 1 = .ok (.lload_n 0, 1) := by decide +kernel
theorem dJ13_bitCount_95d88_2 : decode cJ13_bitCount_95d88 2 = .ok (.iconst 1, 1) := by decide +kernel
theorem dJ13_bitCount_95d88_3 : decode cJ13_bitCount_95d88 3 = .ok (.lushr, 1) := by decide +kernel
theorem dJ13_bitCount_95d88_4 : decode cJ13_bitCount_95d88 4 = .ok (.ldc2_w 314, 3) := by decide +kernel
theorem dJ13_bitCount_95d88_7 : decode cJ13_bitCount_95d88 7 = .ok (.land, 1) := by decide +kernel
theorem dJ13_bitCount_95d88_8 : decode cJ13_bitCount_95d88 8 = .ok (.lsub, 1) := by decide +kernel
theorem dJ13_bitCount_95d88_9 : decode cJ13_bitCount_95d88 9 = .ok (.lstore_n 0, 1) := by decide +kernel
theorem dJ13_bitCount_95d88_10 : decode cJ13_bitCount_95d88 10 = .ok (.lload_n 0, 1) := by decide +kernel
theorem dJ13_bitCount_95d88_11 : decode cJ13_bitCount_95d88 11 = .ok (.ldc2_w 316, 3) := by decide +kernel
theorem dJ13_bitCount_95d88_14 : decode cJ13_bitCount_95d88 14 = .ok (.land, 1) := by decide +kernel
theorem dJ13_bitCount_95d88_15 : decode cJ13_bitCount_95d88 15 = .ok (.lload_n 0, 1) := by decide +kernel
theorem dJ13_bitCount_95d88_16 : decode cJ13_bitCount_95d88 16 = .ok (.iconst 2, 1) := by decide +kernel
theorem dJ13_bitCount_95d88_17 : decode cJ13_bitCount_95d88 17 = .ok (.lushr, 1) := by decide +kernel
theorem dJ13_bitCount_95d88_18 : decode cJ13_bitCount_95d88 18 = .ok (.ldc2_w 316, 3) := by decide +kernel
theorem dJ13_bitCount_95d88_21 : decode cJ13_bitCount_95d88 21 = .ok (.land, 1) := by decide +kernel
theorem dJ13_bitCount_95d88_22 : decode cJ13_bitCount_95d88 22 = .ok (.ladd, 1) := by decide +kernel
theorem dJ13_bitCount_95d88_23 : decode cJ13_bitCount_95d88 23 = .ok (.lstore_n 0, 1) := by decide +kernel
theorem dJ13_bitCount_95d88_24 : decode cJ13_bitCount_95d88 24 = .ok (.lload_n 0, 1) := by decide +kernel
theorem dJ13_bitCount_95d88_25 : decode cJ13_bitCount_95d88 25 = .ok (.lload_n 0, 1) := by decide +kernel
theorem dJ13_bitCount_95d88_26 : decode cJ13_bitCount_95d88 26 = .ok (.iconst 4, 1) := by decide +kernel
theorem dJ13_bitCount_95d88_27 : decode cJ13_bitCount_95d88 27 = .ok (.lushr, 1) := by decide +kernel
theorem dJ13_bitCount_95d88_28 : decode cJ13_bitCount_95d88 28 = .ok (.ladd, 1) := by decide +kernel
theorem dJ13_bitCount_95d88_29 : decode cJ13_bitCount_95d88 29 = .ok (.ldc2_w 318, 3) := by decide +kernel
theorem dJ13_bitCount_95d88_32 : decode cJ13_bitCount_95d88 32 = .ok (.land, 1) := by decide +kernel
theorem dJ13_bitCount_95d88_33 : decode cJ13_bitCount_95d88 33 = .ok (.lstore_n 0, 1) := by decide +kernel
theorem dJ13_bitCount_95d88_34 : decode cJ13_bitCount_95d88 34 = .ok (.lload_n 0, 1) := by decide +kernel
theorem dJ13_bitCount_95d88_35 : decode cJ13_bitCount_95d88 35 = .ok (.lload_n 0, 1) := by decide +kernel
theorem dJ13_bitCount_95d88_36 : decode cJ13_bitCount_95d88 36 = .ok (.bipush 8, 2) := by decide +kernel
theorem dJ13_bitCount_95d88_38 : decode cJ13_bitCount_95d88 38 = .ok (.lushr, 1) := by decide +kernel
theorem dJ13_bitCount_95d88_39 : decode cJ13_bitCount_95d88 39 = .ok (.ladd, 1) := by decide +kernel
theorem dJ13_bitCount_95d88_40 : decode cJ13_bitCount_95d88 40 = .ok (.lstore_n 0, 1) := by decide +kernel
theorem dJ13_bitCount_95d88_41 : decode cJ13_bitCount_95d88 41 = .ok (.lload_n 0, 1) := by decide +kernel
theorem dJ13_bitCount_95d88_42 : decode cJ13_bitCount_95d88 42 = .ok (.lload_n 0, 1) := by decide +kernel
theorem dJ13_bitCount_95d88_43 : decode cJ13_bitCount_95d88 43 = .ok (.bipush 16, 2) := by decide +kernel
theorem dJ13_bitCount_95d88_45 : decode cJ13_bitCount_95d88 45 = .ok (.lushr, 1) := by decide +kernel
theorem dJ13_bitCount_95d88_46 : decode cJ13_bitCount_95d88 46 = .ok (.ladd, 1) := by decide +kernel
theorem dJ13_bitCount_95d88_47 : decode cJ13_bitCount_95d88 47 = .ok (.lstore_n 0, 1) := by decide +kernel
theorem dJ13_bitCount_95d88_48 : decode cJ13_bitCount_95d88 48 = .ok (.lload_n 0, 1) := by decide +kernel
theorem dJ13_bitCount_95d88_49 : decode cJ13_bitCount_95d88 49 = .ok (.lload_n 0, 1) := by decide +kernel
theorem dJ13_bitCount_95d88_50 : decode cJ13_bitCount_95d88 50 = .ok (.bipush 32, 2) := by decide +kernel
theorem dJ13_bitCount_95d88_52 : decode cJ13_bitCount_95d88 52 = .ok (.lushr, 1) := by decide +kernel
theorem dJ13_bitCount_95d88_53 : decode cJ13_bitCount_95d88 53 = .ok (.ladd, 1) := by decide +kernel
theorem dJ13_bitCount_95d88_54 : decode cJ13_bitCount_95d88 54 = .ok (.lstore_n 0, 1) := by decide +kernel
theorem dJ13_bitCount_95d88_55 : decode cJ13_bitCount_95d88 55 = .ok (.lload_n 0, 1) := by decide +kernel
theorem dJ13_bitCount_95d88_56 : decode cJ13_bitCount_95d88 56 = .ok (.l2i, 1) := by decide +kernel
theorem dJ13_bitCount_95d88_57 : decode cJ13_bitCount_95d88 57 = .ok (.bipush 127, 2) := by decide +kernel
theorem dJ13_bitCount_95d88_59 : decode cJ13_bitCount_95d88 59 = .ok (.iand, 1) := by decide +kernel
theorem dJ13_bitCount_95d88_60 : decode cJ13_bitCount_95d88 60 = .ok (.ireturn, 1) := by decide +kernel
theorem dJ9_floorDiv_f86c9_0 : decode cJ9_floorDiv_f86c9 0 = .ok (.lload_n 0, 1) := by decide +kernel
theorem dJ9_floorDiv_f86c9_1 : decode cJ9_floorDiv_f86c9 1 = .ok (.lload_n 2, 1) := by decide +kernel
theorem dJ9_floorDiv_f86c9_2 : decode cJ9_floorDiv_f86c9 2 = .ok (.ldiv, 1) := by decide +kernel
theorem dJ9_floorDiv_f86c9_3 : decode cJ9_floorDiv_f86c9 3 = .ok (.lstore 4, 2) := by decide +kernel
theorem dJ9_floorDiv_f86c9_5 : decode cJ9_floorDiv_f86c9 5 = .ok (.lload_n 0, 1) := by decide +kernel
theorem dJ9_floorDiv_f86c9_6 : decode cJ9_floorDiv_f86c9 6 = .ok (.lload_n 2, 1) := by decide +kernel
theorem dJ9_floorDiv_f86c9_7 : decode cJ9_floorDiv_f86c9 7 = .ok (.lxor, 1) := by decide +kernel
theorem dJ9_floorDiv_f86c9_8 : decode cJ9_floorDiv_f86c9 8 = .ok (.lconst 0, 1) := by decide +kernel
theorem dJ9_floorDiv_f86c9_9 : decode cJ9_floorDiv_f86c9 9 = .ok (.lcmp, 1) := by decide +kernel
theorem dJ9_floorDiv_f86c9_10 : decode cJ9_floorDiv_f86c9 10 = .ok (.ifCond .ge 17, 3) := by decide +kernel
theorem dJ9_floorDiv_f86c9_13 : decode cJ9_floorDiv_f86c9 13 = .ok (.lload 4, 2) := by decide +kernel
theorem dJ9_floorDiv_f86c9_15 : decode cJ9_floorDiv_f86c9 15 = .ok (.lload_n 2, 1) := by decide +kernel
theorem dJ9_floorDiv_f86c9_16 : decode cJ9_floorDiv_f86c9 16 = .ok (.lmul, 1) := by decide +kernel
theorem dJ9_floorDiv_f86c9_17 : decode cJ9_floorDiv_f86c9 17 = .ok (.lload_n 0, 1) := by decide +kernel
theorem dJ9_floorDiv_f86c9_18 : decode cJ9_floorDiv_f86c9 18 = .ok (.lcmp, 1) := by decide +kernel
theorem dJ9_floorDiv_f86c9_19 : decode cJ9_floorDiv_f86c9 19 = .ok (.ifCond .eq 8, 3) := by decide +kernel
theorem dJ9_floorDiv_f86c9_22 : decode cJ9_floorDiv_f86c9 22 = .ok (.lload 4, 2) := by decide +kernel
theorem dJ9_floorDiv_f86c9_24 : decode cJ9_floorDiv_f86c9 24 = .ok (.lconst 1, 1) := by decide +kernel
theorem dJ9_floorDiv_f86c9_25 : decode cJ9_floorDiv_f86c9 25 = .ok (.lsub, 1) := by decide +kernel
theorem dJ9_floorDiv_f86c9_26 : decode cJ9_floorDiv_f86c9 26 = .ok (.lreturn, 1) := by decide +kernel
theorem dJ9_floorDiv_f86c9_27 : decode cJ9_floorDiv_f86c9 27 = .ok (.lload 4, 2) := by decide +kernel
theorem dJ9_floorDiv_f86c9_29 : decode cJ9_floorDiv_f86c9 29 = .ok (.lreturn, 1) := by decide +kernel
theorem dJ9_abs_0f7a4_0 : decode cJ9_abs_0f7a4 0 = .ok (.iload_n 0, 1) := by decide +kernel
theorem dJ9_abs_0f7a4_1 : decode cJ9_abs_0f7a4 1 = .ok (.ifCond .ge 8, 3) := by decide +kernel
theorem dJ9_abs_0f7a4_4 : decode cJ9_abs_0f7a4 4 = .ok (.iload_n 0, 1) := by decide +kernel
theorem dJ9_abs_0f7a4_5 : decode cJ9_abs_0f7a4 5 = .ok (.ineg, 1) := by decide +kernel
theorem dJ9_abs_0f7a4_6 : decode cJ9_abs_0f7a4 6 = .ok (.goto 4, 3) := by decide +kernel
theorem dJ9_abs_0f7a4_9 : decode cJ9_abs_0f7a4 9 = .ok (.iload_n 0, 1) := by decide +kernel
theorem dJ9_abs_0f7a4_10 : decode cJ9_abs_0f7a4 10 = .ok (.ireturn, 1) := by decide +kernel
theorem dJ9_max_7cf53_0 : decode cJ9_max_7cf53 0 = .ok (.iload_n 0, 1) := by decide +kernel
theorem dJ9_max_7cf53_1 : decode cJ9_max_7cf53 1 = .ok (.iload_n 1, 1) := by decide +kernel
theorem dJ9_max_7cf53_2 : decode cJ9_max_7cf53 2 = .ok (.if_icmp .lt 7, 3) := by decide +kernel
theorem dJ9_max_7cf53_5 : decode cJ9_max_7cf53 5 = .ok (.iload_n 0, 1) := by decide +kernel
theorem dJ9_max_7cf53_6 : decode cJ9_max_7cf53 6 = .ok (.goto 4, 3) := by decide +kernel
theorem dJ9_max_7cf53_9 : decode cJ9_max_7cf53 9 = .ok (.iload_n 1, 1) := by decide +kernel
theorem dJ9_max_7cf53_10 : decode cJ9_max_7cf53 10 = .ok (.ireturn, 1) := by decide +kernel
theorem dJ9_min_7cf53_0 : decode cJ9_min_7cf53 0 = .ok (.iload_n 0, 1) := by decide +kernel
theorem dJ9_min_7cf53_1 : decode cJ9_min_7cf53 1 = .ok (.iload_n 1, 1) := by decide +kernel
theorem dJ9_min_7cf53_2 : decode cJ9_min_7cf53 2 = .ok (.if_icmp .gt 7, 3) := by decide +kernel
theorem dJ9_min_7cf53_5 : decode cJ9_min_7cf53 5 = .ok (.iload_n 0, 1) := by decide +kernel
theorem dJ9_min_7cf53_6 : decode cJ9_min_7cf53 6 = .ok (.goto 4, 3) := by decide +kernel
theorem dJ9_min_7cf53_9 : decode cJ9_min_7cf53 9 = .ok (.iload_n 1, 1) := by decide +kernel
theorem dJ9_min_7cf53_10 : decode cJ9_min_7cf53 10 = .ok (.ireturn, 1) := by decide +kernel
theorem dJ0_length_8abf5_0 : decode cJ0_length_8abf5 0 = .ok (.aload_n 0, 1) := by decide +kernel
theorem dJ0_length_8abf5_1 : decode cJ0_length_8abf5 1 = .ok (.getfield 9, 3) := by decide +kernel
theorem dJ0_length_8abf5_4 : decode cJ0_length_8abf5 4 = .ok (.arraylength, 1) := by decide +kernel
theorem dJ0_length_8abf5_5 : decode cJ0_length_8abf5 5 = .ok (.aload_n 0, 1) := by decide +kernel
theorem dJ0_length_8abf5_6 : decode cJ0_length_8abf5 6 = .ok (.invokevirtual 335, 3) := by decide +kernel
theorem dJ0_length_8abf5_9 : decode cJ0_length_8abf5 9 = .ok (.ishr, 1) := by decide +kernel
theorem dJ0_length_8abf5_10 : decode cJ0_length_8abf5 10 = .ok (.ireturn, 1) := by decide +kernel
theorem dJ0_charAt_5068e_0 : decode cJ0_charAt_5068e 0 = .ok (.aload_n 0, 1) := by decide +kernel
theorem dJ0_charAt_5068e_1 : decode cJ0_charAt_5068e 1 = .ok (.invokevirtual 492, 3) := by decide +kernel
theorem dJ0_charAt_5068e_4 : decode cJ0_charAt_5068e 4 = .ok (.ifCond .eq 12, 3) := by decide +kernel
theorem dJ0_charAt_5068e_7 : decode cJ0_charAt_5068e 7 = .ok (.aload_n 0, 1) := by decide +kernel
theorem dJ0_charAt_5068e_8 : decode cJ0_charAt_5068e 8 = .ok (.getfield 9, 3) := by decide +kernel
theorem dJ0_charAt_5068e_11 : decode cJ0_charAt_5068e 11 = .ok (.iload_n 1, 1) := by decide +kernel
theorem dJ0_charAt_5068e_12 : decode cJ0_charAt_5068e 12 = .ok (.invokestatic 495, 3) := by decide +kernel
theorem dJ0_charAt_5068e_15 : decode cJ0_charAt_5068e 15 = .ok (.ireturn, 1) := by decide +kernel
theorem dJ0_charAt_5068e_16 : decode cJ0_charAt_5068e 16 = .ok (.aload_n 0, 1) := by decide +kernel
theorem dJ0_charAt_5068e_17 : decode cJ0_charAt_5068e 17 = .ok (.getfield 9, 3) := by decide +kernel
theorem dJ0_charAt_5068e_20 : decode cJ0_charAt_5068e 20 = .ok (.iload_n 1, 1) := by decide +kernel
theorem dJ0_charAt_5068e_21 : decode cJ0_charAt_5068e 21 = .ok (.invokestatic 498, 3) := by decide +kernel
theorem dJ0_charAt_5068e_24 : decode cJ0_charAt_5068e 24 = .ok (.ireturn, 1) := by decide +kernel
theorem dJ0_coder_7d493_0 : decode cJ0_coder_7d493 0 = .ok (.getstatic 38, 3) := by decide +kernel
theorem dJ0_coder_7d493_3 : decode cJ0_coder_7d493 3 = .ok (.ifCond .eq 10, 3) := by decide +kernel
theorem dJ0_coder_7d493_6 : decode cJ0_coder_7d493 6 = .ok (.aload_n 0, 1) := by decide +kernel
theorem dJ0_coder_7d493_7 : decode cJ0_coder_7d493 7 = .ok (.getfield 15, 3) := by decide +kernel
theorem dJ0_coder_7d493_10 : decode cJ0_coder_7d493 10 = .ok (.goto 4, 3) := by decide +kernel
theorem dJ0_coder_7d493_13 : decode cJ0_coder_7d493 13 = .ok (.iconst 1, 1) := by decide +kernel
theorem dJ0_coder_7d493_14 : decode cJ0_coder_7d493 14 = .ok (.ireturn, 1) := by decide +kernel
theorem dJ0_isLatin1_aae02_0 : decode cJ0_isLatin1_aae02 0 = .ok (.getstatic 38, 3) := by decide +kernel
theorem dJ0_isLatin1_aae02_3 : decode cJ0_isLatin1_aae02 3 = .ok (.ifCond .eq 14, 3) := by decide +kernel
theorem dJ0_isLatin1_aae02_6 : decode cJ0_isLatin1_aae02 6 = .ok (.aload_n 0, 1) := by decide +kernel
theorem dJ0_isLatin1_aae02_7 : decode cJ0_isLatin1_aae02 7 = .ok (.getfield 15, 3) := by decide +kernel
theorem dJ0_isLatin1_aae02_10 : decode cJ0_isLatin1_aae02 10 = .ok (.ifCond .ne 7, 3) := by decide +kernel
theorem dJ0_isLatin1_aae02_13 : decode cJ0_isLatin1_aae02 13 = .ok (.iconst 1, 1) := by decide +kernel
theorem dJ0_isLatin1_aae02_14 : decode cJ0_isLatin1_aae02 14 = .ok (.goto 4, 3) := by decide +kernel
theorem dJ0_isLatin1_aae02_17 : decode cJ0_isLatin1_aae02 17 = .ok (.iconst 0, 1) := by decide +kernel
theorem dJ0_isLatin1_aae02_18 : decode cJ0_isLatin1_aae02 18 = .ok (.ireturn, 1) := by decide +kernel
theorem dJ0_checkIndex_df160_0 : decode cJ0_checkIndex_df160 0 = .ok (.iload_n 0, 1) := by decide +kernel
theorem dJ0_checkIndex_df160_1 : decode cJ0_checkIndex_df160 1 = .ok (.iload_n 1, 1) := by decide +kernel
theorem dJ0_checkIndex_df160_2 : decode cJ0_checkIndex_df160 2 = .ok (.getstatic 1053, 3) := by decide +kernel
theorem dJ0_checkIndex_df160_5 : decode cJ0_checkIndex_df160 5 = .ok (.invokestatic 1059, 3) := by decide +kernel
theorem dJ0_checkIndex_df160_8 : decode cJ0_checkIndex_df160 8 = .ok (.pop, 1) := by decide +kernel
theorem dJ0_checkIndex_df160_9 : decode cJ0_checkIndex_df160 9 = .ok (.return_, 1) := by decide +kernel
theorem dJ1_charAt_3b067_0 : decode cJ1_charAt_3b067 0 = .ok (.iload_n 1, 1) := by decide +kernel
theorem dJ1_charAt_3b067_1 : decode cJ1_charAt_3b067 1 = .ok (.aload_n 0, 1) := by decide +kernel
theorem dJ1_charAt_3b067_2 : decode cJ1_charAt_3b067 2 = .ok (.arraylength, 1) := by decide +kernel
theorem dJ1_charAt_3b067_3 : decode cJ1_charAt_3b067 3 = .ok (.invokestatic 9, 3) := by decide +kernel
theorem dJ1_charAt_3b067_6 : decode cJ1_charAt_3b067 6 = .ok (.aload_n 0, 1) := by decide +kernel
theorem dJ1_charAt_3b067_7 : decode cJ1_charAt_3b067 7 = .ok (.iload_n 1, 1) := by decide +kernel
theorem dJ1_charAt_3b067_8 : decode cJ1_charAt_3b067 8 = .ok (.baload, 1) := by decide +kernel
theorem dJ1_charAt_3b067_9 : decode cJ1_charAt_3b067 9 = .ok (.sipush 255, 3) := by decide +kernel
theorem dJ1_charAt_3b067_12 : decode cJ1_charAt_3b067 12 = .ok (.iand, 1) := by decide +kernel
theorem dJ1_charAt_3b067_13 : decode cJ1_charAt_3b067 13 = .ok (.i2c, 1) := by decide +kernel
theorem dJ1_charAt_3b067_14 : decode cJ1_charAt_3b067 14 = .ok (.ireturn, 1) := by decide +kernel
theorem dJ2_getChar_3b067_0 : decode cJ2_getChar_3b067 0 = .ok (.getstatic 44, 3) := by decide +kernel
theorem dJ2_getChar_3b067_3 : decode cJ2_getChar_3b067 3 = .ok (.ifCond .ne 25, 3) := by decide +kernel
theorem dJ2_getChar_3b067_6 : decode cJ2_getChar_3b067 6 = .ok (.iload_n 1, 1) := by decide +kernel
theorem dJ2_getChar_3b067_7 : decode cJ2_getChar_3b067 7 = .ok (.ifCond .lt 11, 3) := by decide +kernel
theorem dJ2_getChar_3b067_10 : decode cJ2_getChar_3b067 10 = .ok (.iload_n 1, 1) := by decide +kernel
theorem dJ2_getChar_3b067_11 : decode cJ2_getChar_3b067 11 = .ok (.aload_n 0, 1) := by decide +kernel
theorem dJ2_getChar_3b067_12 : decode cJ2_getChar_3b067 12 = .ok (.invokestatic 48, 3) := by decide +kernel
theorem dJ2_getChar_3b067_15 : decode cJ2_getChar_3b067 15 = .ok (.if_icmp .lt 13, 3) := by decide +kernel
theorem dJ2_getChar_3b067_18 : decode cJ2_getChar_3b067 18 = .ok (.new 52, 3) := by decide +kernel
theorem dJ2_getChar_3b067_21 : decode cJ2_getChar_3b067 21 = .ok (.dup, 1) := by decide +kernel
theorem dJ2_getChar_3b067_22 : decode cJ2_getChar_3b067 22 = .ok (.ldc 54, 2) := by decide +kernel
theorem dJ2_getChar_3b067_24 : decode cJ2_getChar_3b067 24 = .ok (.invokespecial 56, 3) := by decide +kernel
theorem dJ2_getChar_3b067_27 : decode cJ2_getChar_3b067 27 = .ok (.athrow, 1) := by decide +kernel
theorem dJ2_getChar_3b067_28 : decode cJ2_getChar_3b067 28 = .ok (.iload_n 1, 1) := by decide +kernel
theorem dJ2_getChar_3b067_29 : decode cJ2_getChar_3b067 29 = .ok (.iconst 1, 1) := by decide +kernel
theorem dJ2_getChar_3b067_30 : decode cJ2_getChar_3b067 30 = .ok (.ishl, 1) := by decide +kernel
theorem dJ2_getChar_3b067_31 : decode cJ2_getChar_3b067 31 = .ok (.istore_n 1, 1) := by decide +kernel
theorem dJ2_getChar_3b067_32 : decode cJ2_getChar_3b067 32 = .ok (.aload_n 0, 1) := by decide +kernel
theorem dJ2_getChar_3b067_33 : decode cJ2_getChar_3b067 33 = .ok (.iload_n 1, 1) := by decide +kernel
theorem dJ2_getChar_3b067_34 : decode cJ2_getChar_3b067 34 = .ok (.iinc 1 1, 3) := by decide +kernel
theorem dJ2_getChar_3b067_37 : decode cJ2_getChar_3b067 37 = .ok (.baload, 1) := by decide +kernel
theorem dJ2_getChar_3b067_38 : decode cJ2_getChar_3b067 38 = .ok (.sipush 255, 3) := by decide +kernel
theorem dJ2_getChar_3b067_41 : decode cJ2_getChar_3b067 41 = .ok (.iand, 1) := by decide +kernel
theorem dJ2_getChar_3b067_42 : decode cJ2_getChar_3b067 42 = .ok (.getstatic 59, 3) := by decide +kernel
theorem dJ2_getChar_3b067_45 : decode cJ2_getChar_3b067 45 = .ok (.ishl, 1) := by decide +kernel
theorem dJ2_getChar_3b067_46 : decode cJ2_getChar_3b067 46 = .ok (.aload_n 0, 1) := by decide +kernel
theorem dJ2_getChar_3b067_47 : decode cJ2_getChar_3b067 47 = .ok (.iload_n 1, 1) := by decide +kernel
theorem dJ2_getChar_3b067_48 : decode cJ2_getChar_3b067 48 = .ok (.baload, 1) := by decide +kernel
theorem dJ2_getChar_3b067_49 : decode cJ2_getChar_3b067 49 = .ok (.sipush 255, 3) := by decide +kernel
theorem dJ2_getChar_3b067_52 : decode cJ2_getChar_3b067 52 = .ok (.iand, 1) := by decide +kernel
theorem dJ2_getChar_3b067_53 : decode cJ2_getChar_3b067 53 = .ok (.getstatic 63, 3) := by decide +kernel
theorem dJ2_getChar_3b067_56 : decode cJ2_getChar_3b067 56 = .ok (.ishl, 1) := by decide +kernel
theorem dJ2_getChar_3b067_57 : decode cJ2_getChar_3b067 57 = .ok (.ior, 1) := by decide +kernel
theorem dJ2_getChar_3b067_58 : decode cJ2_getChar_3b067 58 = .ok (.i2c, 1) := by decide +kernel
theorem dJ2_getChar_3b067_59 : decode cJ2_getChar_3b067 59 = .ok (.ireturn, 1) := by decide +kernel
theorem dJ2_length_9d52b_0 : decode cJ2_length_9d52b 0 = .ok (.aload_n 0, 1) := by decide +kernel
theorem dJ2_length_9d52b_1 : decode cJ2_length_9d52b 1 = .ok (.arraylength, 1) := by decide +kernel
theorem dJ2_length_9d52b_2 : decode cJ2_length_9d52b 2 = .ok (.iconst 1, 1) := by decide +kernel
theorem dJ2_length_9d52b_3 : decode cJ2_length_9d52b 3 = .ok (.ishr, 1) := by decide +kernel
theorem dJ2_length_9d52b_4 : decode cJ2_length_9d52b 4 = .ok (.ireturn, 1) := by decide +kernel
theorem dJ2_charAt_3b067_0 : decode cJ2_charAt_3b067 0 = .ok (.iload_n 1, 1) := by decide +kernel
theorem dJ2_charAt_3b067_1 : decode cJ2_charAt_3b067 1 = .ok (.aload_n 0, 1) := by decide +kernel
theorem dJ2_charAt_3b067_2 : decode cJ2_charAt_3b067 2 = .ok (.invokestatic 67, 3) := by decide +kernel
theorem dJ2_charAt_3b067_5 : decode cJ2_charAt_3b067 5 = .ok (.aload_n 0, 1) := by decide +kernel
theorem dJ2_charAt_3b067_6 : decode cJ2_charAt_3b067 6 = .ok (.iload_n 1, 1) := by decide +kernel
theorem dJ2_charAt_3b067_7 : decode cJ2_charAt_3b067 7 = .ok (.invokestatic 71, 3) := by decide +kernel
theorem dJ2_charAt_3b067_10 : decode cJ2_charAt_3b067 10 = .ok (.ireturn, 1) := by decide +kernel
theorem dJ2_checkIndex_2214a_0 : decode cJ2_checkIndex_2214a 0 = .ok (.iload_n 0, 1) := by decide +kernel
theorem dJ2_checkIndex_2214a_1 : decode cJ2_checkIndex_2214a 1 = .ok (.aload_n 1, 1) := by decide +kernel
theorem dJ2_checkIndex_2214a_2 : decode cJ2_checkIndex_2214a 2 = .ok (.invokestatic 48, 3) := by decide +kernel
theorem dJ2_checkIndex_2214a_5 : decode cJ2_checkIndex_2214a 5 = .ok (.invokestatic 414, 3) := by decide +kernel
theorem dJ2_checkIndex_2214a_8 : decode cJ2_checkIndex_2214a 8 = .ok (.return_, 1) := by decide +kernel
theorem dJ7_fill_53178_0 : decode cJ7_fill_53178 0 = .ok (.iconst 0, 1) := by decide +kernel
theorem dJ7_fill_53178_1 : decode cJ7_fill_53178 1 = .ok (.istore_n 2, 1) := by decide +kernel
theorem dJ7_fill_53178_2 : decode cJ7_fill_53178 2 = .ok (.aload_n 0, 1) := by decide +kernel
theorem dJ7_fill_53178_3 : decode cJ7_fill_53178 3 = .ok (.arraylength, 1) := by decide +kernel
theorem dJ7_fill_53178_4 : decode cJ7_fill_53178 4 = .ok (.istore_n 3, 1) := by decide +kernel
theorem dJ7_fill_53178_5 : decode cJ7_fill_53178 5 = .ok (.iload_n 2, 1) := by decide +kernel
theorem dJ7_fill_53178_6 : decode cJ7_fill_53178 6 = .ok (.iload_n 3, 1) := by decide +kernel
theorem dJ7_fill_53178_7 : decode cJ7_fill_53178 7 = .ok (.if_icmp .ge 13, 3) := by decide +kernel
theorem dJ7_fill_53178_10 : decode cJ7_fill_53178 10 = .ok (.aload_n 0, 1) := by decide +kernel
theorem dJ7_fill_53178_11 : decode cJ7_fill_53178 11 = .ok (.iload_n 2, 1) := by decide +kernel
theorem dJ7_fill_53178_12 : decode cJ7_fill_53178 12 = .ok (.iload_n 1, 1) := by decide +kernel
theorem dJ7_fill_53178_13 : decode cJ7_fill_53178 13 = .ok (.iastore, 1) := by decide +kernel
theorem dJ7_fill_53178_14 : decode cJ7_fill_53178 14 = .ok (.iinc 2 1, 3) := by decide +kernel
theorem dJ7_fill_53178_17 : decode cJ7_fill_53178 17 = .ok (.goto (-12), 3) := by decide +kernel
theorem dJ7_fill_53178_20 : decode cJ7_fill_53178 20 = .ok (.return_, 1) := by decide +kernel
theorem dJ3_checkIndex_8e157_0 : decode cJ3_checkIndex_8e157 0 = .ok (.iload_n 0, 1) := by decide +kernel
theorem dJ3_checkIndex_8e157_1 : decode cJ3_checkIndex_8e157 1 = .ok (.ifCond .lt 8, 3) := by decide +kernel
theorem dJ3_checkIndex_8e157_4 : decode cJ3_checkIndex_8e157 4 = .ok (.iload_n 0, 1) := by decide +kernel
theorem dJ3_checkIndex_8e157_5 : decode cJ3_checkIndex_8e157 5 = .ok (.iload_n 1, 1) := by decide +kernel
theorem dJ3_checkIndex_8e157_6 : decode cJ3_checkIndex_8e157 6 = .ok (.if_icmp .lt 10, 3) := by decide +kernel
theorem dJ3_checkIndex_8e157_9 : decode cJ3_checkIndex_8e157 9 = .ok (.aload_n 2, 1) := by decide +kernel
theorem dJ3_checkIndex_8e157_10 : decode cJ3_checkIndex_8e157 10 = .ok (.iload_n 0, 1) := by decide +kernel
theorem dJ3_checkIndex_8e157_11 : decode cJ3_checkIndex_8e157 11 = .ok (.iload_n 1, 1) := by decide +kernel
theorem dJ3_checkIndex_8e157_12 : decode cJ3_checkIndex_8e157 12 = .ok (.invokestatic 95, 3) := by decide +kernel
theorem dJ3_checkIndex_8e157_15 : decode cJ3_checkIndex_8e157 15 = .ok (.athrow, 1) := by decide +kernel
theorem dJ3_checkIndex_8e157_16 : decode cJ3_checkIndex_8e157 16 = .ok (.iload_n 0, 1) := by decide +kernel
theorem dJ3_checkIndex_8e157_17 : decode cJ3_checkIndex_8e157 17 = .ok (.ireturn, 1) := by decide +kernel
theorem dL_count_0 : decode cL_count 0 = .ok (.aload_n 2, 1) := by decide +kernel
theorem dL_count_1 : decode cL_count 1 = .ok (.iconst 0, 1) := by decide +kernel
theorem dL_count_2 : decode cL_count 2 = .ok (.aload_n 0, 1) := by decide +kernel
theorem dL_count_3 : decode cL_count 3 = .ok (.iload_n 1, 1) := by decide +kernel
theorem dL_count_4 : decode cL_count 4 = .ok (.invokevirtual 7, 3) := by decide +kernel
theorem dL_count_7 : decode cL_count 7 = .ok (.i2l, 1) := by decide +kernel
theorem dL_count_8 : decode cL_count 8 = .ok (.lastore, 1) := by decide +kernel
theorem dL_count_9 : decode cL_count 9 = .ok (.goto 6, 3) := by decide +kernel
theorem dL_count_12 : decode cL_count 12 = .ok (.astore_n 3, 1) := by decide +kernel
theorem dL_count_13 : decode cL_count 13 = .ok (.iconst 1, 1) := by decide +kernel
theorem dL_count_14 : decode cL_count 14 = .ok (.ireturn, 1) := by decide +kernel
theorem dL_count_15 : decode cL_count 15 = .ok (.iconst 0, 1) := by decide +kernel
theorem dL_count_16 : decode cL_count 16 = .ok (.ireturn, 1) := by decide +kernel
theorem dL_account_0 : decode cL_account 0 = .ok (.aload_n 3, 1) := by decide +kernel
theorem dL_account_1 : decode cL_account 1 = .ok (.iconst 0, 1) := by decide +kernel
theorem dL_account_2 : decode cL_account 2 = .ok (.aload_n 0, 1) := by decide +kernel
theorem dL_account_3 : decode cL_account 3 = .ok (.iload_n 1, 1) := by decide +kernel
theorem dL_account_4 : decode cL_account 4 = .ok (.iload_n 2, 1) := by decide +kernel
theorem dL_account_5 : decode cL_account 5 = .ok (.invokevirtual 15, 3) := by decide +kernel
theorem dL_account_8 : decode cL_account 8 = .ok (.i2l, 1) := by decide +kernel
theorem dL_account_9 : decode cL_account 9 = .ok (.lastore, 1) := by decide +kernel
theorem dL_account_10 : decode cL_account 10 = .ok (.goto 11, 3) := by decide +kernel
theorem dL_account_13 : decode cL_account 13 = .ok (.astore 4, 2) := by decide +kernel
theorem dL_account_15 : decode cL_account 15 = .ok (.iconst 1, 1) := by decide +kernel
theorem dL_account_16 : decode cL_account 16 = .ok (.ireturn, 1) := by decide +kernel
theorem dL_account_17 : decode cL_account 17 = .ok (.astore 4, 2) := by decide +kernel
theorem dL_account_19 : decode cL_account 19 = .ok (.iconst 2, 1) := by decide +kernel
theorem dL_account_20 : decode cL_account 20 = .ok (.ireturn, 1) := by decide +kernel
theorem dL_account_21 : decode cL_account 21 = .ok (.iconst 0, 1) := by decide +kernel
theorem dL_account_22 : decode cL_account 22 = .ok (.ireturn, 1) := by decide +kernel
theorem dL_turn_0 : decode cL_turn 0 = .ok (.aload_n 3, 1) := by decide +kernel
theorem dL_turn_1 : decode cL_turn 1 = .ok (.iconst 0, 1) := by decide +kernel
theorem dL_turn_2 : decode cL_turn 2 = .ok (.aload_n 0, 1) := by decide +kernel
theorem dL_turn_3 : decode cL_turn 3 = .ok (.iload_n 1, 1) := by decide +kernel
theorem dL_turn_4 : decode cL_turn 4 = .ok (.iload_n 2, 1) := by decide +kernel
theorem dL_turn_5 : decode cL_turn 5 = .ok (.invokevirtual 21, 3) := by decide +kernel
theorem dL_turn_8 : decode cL_turn 8 = .ok (.i2l, 1) := by decide +kernel
theorem dL_turn_9 : decode cL_turn 9 = .ok (.lastore, 1) := by decide +kernel
theorem dL_turn_10 : decode cL_turn 10 = .ok (.goto 11, 3) := by decide +kernel
theorem dL_turn_13 : decode cL_turn 13 = .ok (.astore 4, 2) := by decide +kernel
theorem dL_turn_15 : decode cL_turn 15 = .ok (.iconst 1, 1) := by decide +kernel
theorem dL_turn_16 : decode cL_turn 16 = .ok (.ireturn, 1) := by decide +kernel
theorem dL_turn_17 : decode cL_turn 17 = .ok (.astore 4, 2) := by decide +kernel
theorem dL_turn_19 : decode cL_turn 19 = .ok (.iconst 2, 1) := by decide +kernel
theorem dL_turn_20 : decode cL_turn 20 = .ok (.ireturn, 1) := by decide +kernel
theorem dL_turn_21 : decode cL_turn 21 = .ok (.iconst 0, 1) := by decide +kernel
theorem dL_turn_22 : decode cL_turn 22 = .ok (.ireturn, 1) := by decide +kernel
theorem dL_rule_0 : decode cL_rule 0 = .ok (.aload_n 3, 1) := by decide +kernel
theorem dL_rule_1 : decode cL_rule 1 = .ok (.iconst 0, 1) := by decide +kernel
theorem dL_rule_2 : decode cL_rule 2 = .ok (.aload_n 0, 1) := by decide +kernel
theorem dL_rule_3 : decode cL_rule 3 = .ok (.iload_n 1, 1) := by decide +kernel
theorem dL_rule_4 : decode cL_rule 4 = .ok (.iload_n 2, 1) := by decide +kernel
theorem dL_rule_5 : decode cL_rule 5 = .ok (.invokevirtual 24, 3) := by decide +kernel
theorem dL_rule_8 : decode cL_rule 8 = .ok (.i2l, 1) := by decide +kernel
theorem dL_rule_9 : decode cL_rule 9 = .ok (.lastore, 1) := by decide +kernel
theorem dL_rule_10 : decode cL_rule 10 = .ok (.goto 11, 3) := by decide +kernel
theorem dL_rule_13 : decode cL_rule 13 = .ok (.astore 4, 2) := by decide +kernel
theorem dL_rule_15 : decode cL_rule 15 = .ok (.iconst 1, 1) := by decide +kernel
theorem dL_rule_16 : decode cL_rule 16 = .ok (.ireturn, 1) := by decide +kernel
theorem dL_rule_17 : decode cL_rule 17 = .ok (.astore 4, 2) := by decide +kernel
theorem dL_rule_19 : decode cL_rule 19 = .ok (.iconst 2, 1) := by decide +kernel
theorem dL_rule_20 : decode cL_rule 20 = .ok (.ireturn, 1) := by decide +kernel
theorem dL_rule_21 : decode cL_rule 21 = .ok (.iconst 0, 1) := by decide +kernel
theorem dL_rule_22 : decode cL_rule 22 = .ok (.ireturn, 1) := by decide +kernel
theorem dL_only_0 : decode cL_only 0 = .ok (.aload_n 3, 1) := by decide +kernel
theorem dL_only_1 : decode cL_only 1 = .ok (.iconst 0, 1) := by decide +kernel
theorem dL_only_2 : decode cL_only 2 = .ok (.aload_n 0, 1) := by decide +kernel
theorem dL_only_3 : decode cL_only 3 = .ok (.iload_n 1, 1) := by decide +kernel
theorem dL_only_4 : decode cL_only 4 = .ok (.iload_n 2, 1) := by decide +kernel
theorem dL_only_5 : decode cL_only 5 = .ok (.invokevirtual 27, 3) := by decide +kernel
theorem dL_only_8 : decode cL_only 8 = .ok (.i2l, 1) := by decide +kernel
theorem dL_only_9 : decode cL_only 9 = .ok (.lastore, 1) := by decide +kernel
theorem dL_only_10 : decode cL_only 10 = .ok (.goto 7, 3) := by decide +kernel
theorem dL_only_13 : decode cL_only 13 = .ok (.astore 4, 2) := by decide +kernel
theorem dL_only_15 : decode cL_only 15 = .ok (.iconst 1, 1) := by decide +kernel
theorem dL_only_16 : decode cL_only 16 = .ok (.ireturn, 1) := by decide +kernel
theorem dL_only_17 : decode cL_only 17 = .ok (.iconst 0, 1) := by decide +kernel
theorem dL_only_18 : decode cL_only 18 = .ok (.ireturn, 1) := by decide +kernel
theorem dL_barred_0 : decode cL_barred 0 = .ok (.aload 4, 2) := by decide +kernel
theorem dL_barred_2 : decode cL_barred 2 = .ok (.iconst 0, 1) := by decide +kernel
theorem dL_barred_3 : decode cL_barred 3 = .ok (.aload_n 0, 1) := by decide +kernel
theorem dL_barred_4 : decode cL_barred 4 = .ok (.iload_n 1, 1) := by decide +kernel
theorem dL_barred_5 : decode cL_barred 5 = .ok (.iload_n 2, 1) := by decide +kernel
theorem dL_barred_6 : decode cL_barred 6 = .ok (.iload_n 3, 1) := by decide +kernel
theorem dL_barred_7 : decode cL_barred 7 = .ok (.invokevirtual 30, 3) := by decide +kernel
theorem dL_barred_10 : decode cL_barred 10 = .ok (.i2l, 1) := by decide +kernel
theorem dL_barred_11 : decode cL_barred 11 = .ok (.lastore, 1) := by decide +kernel
theorem dL_barred_12 : decode cL_barred 12 = .ok (.goto 7, 3) := by decide +kernel
theorem dL_barred_15 : decode cL_barred 15 = .ok (.astore 5, 2) := by decide +kernel
theorem dL_barred_17 : decode cL_barred 17 = .ok (.iconst 1, 1) := by decide +kernel
theorem dL_barred_18 : decode cL_barred 18 = .ok (.ireturn, 1) := by decide +kernel
theorem dL_barred_19 : decode cL_barred 19 = .ok (.iconst 0, 1) := by decide +kernel
theorem dL_barred_20 : decode cL_barred 20 = .ok (.ireturn, 1) := by decide +kernel
theorem dL_ruleLetter_0 : decode cL_ruleLetter 0 = .ok (.aload_n 3, 1) := by decide +kernel
theorem dL_ruleLetter_1 : decode cL_ruleLetter 1 = .ok (.iconst 0, 1) := by decide +kernel
theorem dL_ruleLetter_2 : decode cL_ruleLetter 2 = .ok (.aload_n 0, 1) := by decide +kernel
theorem dL_ruleLetter_3 : decode cL_ruleLetter 3 = .ok (.iload_n 1, 1) := by decide +kernel
theorem dL_ruleLetter_4 : decode cL_ruleLetter 4 = .ok (.iload_n 2, 1) := by decide +kernel
theorem dL_ruleLetter_5 : decode cL_ruleLetter 5 = .ok (.invokevirtual 34, 3) := by decide +kernel
theorem dL_ruleLetter_8 : decode cL_ruleLetter 8 = .ok (.i2l, 1) := by decide +kernel
theorem dL_ruleLetter_9 : decode cL_ruleLetter 9 = .ok (.lastore, 1) := by decide +kernel
theorem dL_ruleLetter_10 : decode cL_ruleLetter 10 = .ok (.goto 7, 3) := by decide +kernel
theorem dL_ruleLetter_13 : decode cL_ruleLetter 13 = .ok (.astore 4, 2) := by decide +kernel
theorem dL_ruleLetter_15 : decode cL_ruleLetter 15 = .ok (.iconst 1, 1) := by decide +kernel
theorem dL_ruleLetter_16 : decode cL_ruleLetter 16 = .ok (.ireturn, 1) := by decide +kernel
theorem dL_ruleLetter_17 : decode cL_ruleLetter 17 = .ok (.iconst 0, 1) := by decide +kernel
theorem dL_ruleLetter_18 : decode cL_ruleLetter 18 = .ok (.ireturn, 1) := by decide +kernel
theorem dL_part_0 : decode cL_part 0 = .ok (.aload_n 3, 1) := by decide +kernel
theorem dL_part_1 : decode cL_part 1 = .ok (.iconst 0, 1) := by decide +kernel
theorem dL_part_2 : decode cL_part 2 = .ok (.aload_n 0, 1) := by decide +kernel
theorem dL_part_3 : decode cL_part 3 = .ok (.iload_n 1, 1) := by decide +kernel
theorem dL_part_4 : decode cL_part 4 = .ok (.iload_n 2, 1) := by decide +kernel
theorem dL_part_5 : decode cL_part 5 = .ok (.invokevirtual 37, 3) := by decide +kernel
theorem dL_part_8 : decode cL_part 8 = .ok (.i2l, 1) := by decide +kernel
theorem dL_part_9 : decode cL_part 9 = .ok (.lastore, 1) := by decide +kernel
theorem dL_part_10 : decode cL_part 10 = .ok (.goto 11, 3) := by decide +kernel
theorem dL_part_13 : decode cL_part 13 = .ok (.astore 4, 2) := by decide +kernel
theorem dL_part_15 : decode cL_part 15 = .ok (.iconst 1, 1) := by decide +kernel
theorem dL_part_16 : decode cL_part 16 = .ok (.ireturn, 1) := by decide +kernel
theorem dL_part_17 : decode cL_part 17 = .ok (.astore 4, 2) := by decide +kernel
theorem dL_part_19 : decode cL_part 19 = .ok (.iconst 2, 1) := by decide +kernel
theorem dL_part_20 : decode cL_part 20 = .ok (.ireturn, 1) := by decide +kernel
theorem dL_part_21 : decode cL_part 21 = .ok (.iconst 0, 1) := by decide +kernel
theorem dL_part_22 : decode cL_part 22 = .ok (.ireturn, 1) := by decide +kernel
theorem dL_allows_0 : decode cL_allows 0 = .ok (.aload 4, 2) := by decide +kernel
theorem dL_allows_2 : decode cL_allows 2 = .ok (.iconst 0, 1) := by decide +kernel
theorem dL_allows_3 : decode cL_allows 3 = .ok (.aload_n 0, 1) := by decide +kernel
theorem dL_allows_4 : decode cL_allows 4 = .ok (.iload_n 1, 1) := by decide +kernel
theorem dL_allows_5 : decode cL_allows 5 = .ok (.iload_n 2, 1) := by decide +kernel
theorem dL_allows_6 : decode cL_allows 6 = .ok (.iload_n 3, 1) := by decide +kernel
theorem dL_allows_7 : decode cL_allows 7 = .ok (.invokevirtual 40, 3) := by decide +kernel
theorem dL_allows_10 : decode cL_allows 10 = .ok (.ifCond .eq 7, 3) := by decide +kernel
theorem dL_allows_13 : decode cL_allows 13 = .ok (.lconst 1, 1) := by decide +kernel
theorem dL_allows_14 : decode cL_allows 14 = .ok (.goto 4, 3) := by decide +kernel
theorem dL_allows_17 : decode cL_allows 17 = .ok (.lconst 0, 1) := by decide +kernel
theorem dL_allows_18 : decode cL_allows 18 = .ok (.lastore, 1) := by decide +kernel
theorem dL_allows_19 : decode cL_allows 19 = .ok (.goto 11, 3) := by decide +kernel
theorem dL_allows_22 : decode cL_allows 22 = .ok (.astore 5, 2) := by decide +kernel
theorem dL_allows_24 : decode cL_allows 24 = .ok (.iconst 1, 1) := by decide +kernel
theorem dL_allows_25 : decode cL_allows 25 = .ok (.ireturn, 1) := by decide +kernel
theorem dL_allows_26 : decode cL_allows 26 = .ok (.astore 5, 2) := by decide +kernel
theorem dL_allows_28 : decode cL_allows 28 = .ok (.iconst 2, 1) := by decide +kernel
theorem dL_allows_29 : decode cL_allows 29 = .ok (.ireturn, 1) := by decide +kernel
theorem dL_allows_30 : decode cL_allows 30 = .ok (.iconst 0, 1) := by decide +kernel
theorem dL_allows_31 : decode cL_allows 31 = .ok (.ireturn, 1) := by decide +kernel
theorem dL_whyNot_0 : decode cL_whyNot 0 = .ok (.aload 4, 2) := by decide +kernel
theorem dL_whyNot_2 : decode cL_whyNot 2 = .ok (.iconst 0, 1) := by decide +kernel
theorem dL_whyNot_3 : decode cL_whyNot 3 = .ok (.aload_n 0, 1) := by decide +kernel
theorem dL_whyNot_4 : decode cL_whyNot 4 = .ok (.iload_n 1, 1) := by decide +kernel
theorem dL_whyNot_5 : decode cL_whyNot 5 = .ok (.iload_n 2, 1) := by decide +kernel
theorem dL_whyNot_6 : decode cL_whyNot 6 = .ok (.iload_n 3, 1) := by decide +kernel
theorem dL_whyNot_7 : decode cL_whyNot 7 = .ok (.invokevirtual 44, 3) := by decide +kernel
theorem dL_whyNot_10 : decode cL_whyNot 10 = .ok (.i2l, 1) := by decide +kernel
theorem dL_whyNot_11 : decode cL_whyNot 11 = .ok (.lastore, 1) := by decide +kernel
theorem dL_whyNot_12 : decode cL_whyNot 12 = .ok (.goto 7, 3) := by decide +kernel
theorem dL_whyNot_15 : decode cL_whyNot 15 = .ok (.astore 5, 2) := by decide +kernel
theorem dL_whyNot_17 : decode cL_whyNot 17 = .ok (.iconst 1, 1) := by decide +kernel
theorem dL_whyNot_18 : decode cL_whyNot 18 = .ok (.ireturn, 1) := by decide +kernel
theorem dL_whyNot_19 : decode cL_whyNot 19 = .ok (.iconst 0, 1) := by decide +kernel
theorem dL_whyNot_20 : decode cL_whyNot 20 = .ok (.ireturn, 1) := by decide +kernel
theorem dL_value_0 : decode cL_value 0 = .ok (.aload 4, 2) := by decide +kernel
theorem dL_value_2 : decode cL_value 2 = .ok (.iconst 0, 1) := by decide +kernel
theorem dL_value_3 : decode cL_value 3 = .ok (.aload_n 0, 1) := by decide +kernel
theorem dL_value_4 : decode cL_value 4 = .ok (.iload_n 1, 1) := by decide +kernel
theorem dL_value_5 : decode cL_value 5 = .ok (.iload_n 2, 1) := by decide +kernel
theorem dL_value_6 : decode cL_value 6 = .ok (.iload_n 3, 1) := by decide +kernel
theorem dL_value_7 : decode cL_value 7 = .ok (.invokevirtual 48, 3) := by decide +kernel
theorem dL_value_10 : decode cL_value 10 = .ok (.i2l, 1) := by decide +kernel
theorem dL_value_11 : decode cL_value 11 = .ok (.lastore, 1) := by decide +kernel
theorem dL_value_12 : decode cL_value 12 = .ok (.goto 11, 3) := by decide +kernel
theorem dL_value_15 : decode cL_value 15 = .ok (.astore 5, 2) := by decide +kernel
theorem dL_value_17 : decode cL_value 17 = .ok (.iconst 1, 1) := by decide +kernel
theorem dL_value_18 : decode cL_value 18 = .ok (.ireturn, 1) := by decide +kernel
theorem dL_value_19 : decode cL_value 19 = .ok (.astore 5, 2) := by decide +kernel
theorem dL_value_21 : decode cL_value 21 = .ok (.iconst 2, 1) := by decide +kernel
theorem dL_value_22 : decode cL_value 22 = .ok (.ireturn, 1) := by decide +kernel
theorem dL_value_23 : decode cL_value 23 = .ok (.iconst 0, 1) := by decide +kernel
theorem dL_value_24 : decode cL_value 24 = .ok (.ireturn, 1) := by decide +kernel
theorem dL_span_0 : decode cL_span 0 = .ok (.aload 4, 2) := by decide +kernel
theorem dL_span_2 : decode cL_span 2 = .ok (.iconst 0, 1) := by decide +kernel
theorem dL_span_3 : decode cL_span 3 = .ok (.aload_n 0, 1) := by decide +kernel
theorem dL_span_4 : decode cL_span 4 = .ok (.iload_n 1, 1) := by decide +kernel
theorem dL_span_5 : decode cL_span 5 = .ok (.iload_n 2, 1) := by decide +kernel
theorem dL_span_6 : decode cL_span 6 = .ok (.iload_n 3, 1) := by decide +kernel
theorem dL_span_7 : decode cL_span 7 = .ok (.invokevirtual 51, 3) := by decide +kernel
theorem dL_span_10 : decode cL_span 10 = .ok (.i2l, 1) := by decide +kernel
theorem dL_span_11 : decode cL_span 11 = .ok (.lastore, 1) := by decide +kernel
theorem dL_span_12 : decode cL_span 12 = .ok (.goto 11, 3) := by decide +kernel
theorem dL_span_15 : decode cL_span 15 = .ok (.astore 5, 2) := by decide +kernel
theorem dL_span_17 : decode cL_span 17 = .ok (.iconst 1, 1) := by decide +kernel
theorem dL_span_18 : decode cL_span 18 = .ok (.ireturn, 1) := by decide +kernel
theorem dL_span_19 : decode cL_span 19 = .ok (.astore 5, 2) := by decide +kernel
theorem dL_span_21 : decode cL_span 21 = .ok (.iconst 2, 1) := by decide +kernel
theorem dL_span_22 : decode cL_span 22 = .ok (.ireturn, 1) := by decide +kernel
theorem dL_span_23 : decode cL_span 23 = .ok (.iconst 0, 1) := by decide +kernel
theorem dL_span_24 : decode cL_span 24 = .ok (.ireturn, 1) := by decide +kernel
theorem dL_losing_0 : decode cL_losing 0 = .ok (.aload 4, 2) := by decide +kernel
theorem dL_losing_2 : decode cL_losing 2 = .ok (.iconst 0, 1) := by decide +kernel
theorem dL_losing_3 : decode cL_losing 3 = .ok (.aload_n 0, 1) := by decide +kernel
theorem dL_losing_4 : decode cL_losing 4 = .ok (.iload_n 1, 1) := by decide +kernel
theorem dL_losing_5 : decode cL_losing 5 = .ok (.iload_n 2, 1) := by decide +kernel
theorem dL_losing_6 : decode cL_losing 6 = .ok (.iload_n 3, 1) := by decide +kernel
theorem dL_losing_7 : decode cL_losing 7 = .ok (.invokevirtual 54, 3) := by decide +kernel
theorem dL_losing_10 : decode cL_losing 10 = .ok (.i2l, 1) := by decide +kernel
theorem dL_losing_11 : decode cL_losing 11 = .ok (.lastore, 1) := by decide +kernel
theorem dL_losing_12 : decode cL_losing 12 = .ok (.goto 7, 3) := by decide +kernel
theorem dL_losing_15 : decode cL_losing 15 = .ok (.astore 5, 2) := by decide +kernel
theorem dL_losing_17 : decode cL_losing 17 = .ok (.iconst 1, 1) := by decide +kernel
theorem dL_losing_18 : decode cL_losing 18 = .ok (.ireturn, 1) := by decide +kernel
theorem dL_losing_19 : decode cL_losing 19 = .ok (.iconst 0, 1) := by decide +kernel
theorem dL_losing_20 : decode cL_losing 20 = .ok (.ireturn, 1) := by decide +kernel
