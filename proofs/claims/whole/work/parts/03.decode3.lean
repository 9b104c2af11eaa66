theorem dX8_lossOf_0 : decode cX8_lossOf 0 = .ok (.aload_n 0, 1) := by decide +kernel
theorem dX8_lossOf_1 : decode cX8_lossOf 1 = .ok (.iload_n 1, 1) := by decide +kernel
theorem dX8_lossOf_2 : decode cX8_lossOf 2 = .ok (.iconst 0, 1) := by decide +kernel
theorem dX8_lossOf_3 : decode cX8_lossOf 3 = .ok (.invokevirtual 113, 3) := by decide +kernel
theorem dX8_lossOf_6 : decode cX8_lossOf 6 = .ok (.istore_n 3, 1) := by decide +kernel
theorem dX8_lossOf_7 : decode cX8_lossOf 7 = .ok (.aload_n 0, 1) := by decide +kernel
theorem dX8_lossOf_8 : decode cX8_lossOf 8 = .ok (.getfield 9, 3) := by decide +kernel
theorem dX8_lossOf_11 : decode cX8_lossOf 11 = .ok (.bipush 20, 2) := by decide +kernel
theorem dX8_lossOf_13 : decode cX8_lossOf 13 = .ok (.iload_n 2, 1) := by decide +kernel
theorem dX8_lossOf_14 : decode cX8_lossOf 14 = .ok (.iadd, 1) := by decide +kernel
theorem dX8_lossOf_15 : decode cX8_lossOf 15 = .ok (.iaload, 1) := by decide +kernel
theorem dX8_lossOf_16 : decode cX8_lossOf 16 = .ok (.istore 4, 2) := by decide +kernel
theorem dX8_lossOf_18 : decode cX8_lossOf 18 = .ok (.aload_n 0, 1) := by decide +kernel
theorem dX8_lossOf_19 : decode cX8_lossOf 19 = .ok (.getfield 9, 3) := by decide +kernel
theorem dX8_lossOf_22 : decode cX8_lossOf 22 = .ok (.bipush 32, 2) := by decide +kernel
theorem dX8_lossOf_24 : decode cX8_lossOf 24 = .ok (.iload_n 2, 1) := by decide +kernel
theorem dX8_lossOf_25 : decode cX8_lossOf 25 = .ok (.iadd, 1) := by decide +kernel
theorem dX8_lossOf_26 : decode cX8_lossOf 26 = .ok (.iaload, 1) := by decide +kernel
theorem dX8_lossOf_27 : decode cX8_lossOf 27 = .ok (.istore 5, 2) := by decide +kernel
theorem dX8_lossOf_29 : decode cX8_lossOf 29 = .ok (.iconst 2, 1) := by decide +kernel
theorem dX8_lossOf_30 : decode cX8_lossOf 30 = .ok (.iload 4, 2) := by decide +kernel
theorem dX8_lossOf_32 : decode cX8_lossOf 32 = .ok (.imul, 1) := by decide +kernel
theorem dX8_lossOf_33 : decode cX8_lossOf 33 = .ok (.istore 6, 2) := by decide +kernel
theorem dX8_lossOf_35 : decode cX8_lossOf 35 = .ok (.iconst 5, 1) := by decide +kernel
theorem dX8_lossOf_36 : decode cX8_lossOf 36 = .ok (.iload 5, 2) := by decide +kernel
theorem dX8_lossOf_38 : decode cX8_lossOf 38 = .ok (.imul, 1) := by decide +kernel
theorem dX8_lossOf_39 : decode cX8_lossOf 39 = .ok (.istore 7, 2) := by decide +kernel
theorem dX8_lossOf_41 : decode cX8_lossOf 41 = .ok (.iload_n 3, 1) := by decide +kernel
theorem dX8_lossOf_42 : decode cX8_lossOf 42 = .ok (.iconst 3, 1) := by decide +kernel
theorem dX8_lossOf_43 : decode cX8_lossOf 43 = .ok (.if_icmp .ne 12, 3) := by decide +kernel
theorem dX8_lossOf_46 : decode cX8_lossOf 46 = .ok (.iconst 0, 1) := by decide +kernel
theorem dX8_lossOf_47 : decode cX8_lossOf 47 = .ok (.istore 6, 2) := by decide +kernel
theorem dX8_lossOf_49 : decode cX8_lossOf 49 = .ok (.iconst 0, 1) := by decide +kernel
theorem dX8_lossOf_50 : decode cX8_lossOf 50 = .ok (.istore 7, 2) := by decide +kernel
theorem dX8_lossOf_52 : decode cX8_lossOf 52 = .ok (.goto 40, 3) := by decide +kernel
theorem dX8_lossOf_55 : decode cX8_lossOf 55 = .ok (.iload_n 3, 1) := by decide +kernel
theorem dX8_lossOf_56 : decode cX8_lossOf 56 = .ok (.iconst 1, 1) := by decide +kernel
theorem dX8_lossOf_57 : decode cX8_lossOf 57 = .ok (.if_icmp .ne 10, 3) := by decide +kernel
theorem dX8_lossOf_60 : decode cX8_lossOf 60 = .ok (.iload 4, 2) := by decide +kernel
theorem dX8_lossOf_62 : decode cX8_lossOf 62 = .ok (.istore 6, 2) := by decide +kernel
theorem dX8_lossOf_64 : decode cX8_lossOf 64 = .ok (.goto 28, 3) := by decide +kernel
theorem dX8_lossOf_67 : decode cX8_lossOf 67 = .ok (.iload_n 3, 1) := by decide +kernel
theorem dX8_lossOf_68 : decode cX8_lossOf 68 = .ok (.iconst 2, 1) := by decide +kernel
theorem dX8_lossOf_69 : decode cX8_lossOf 69 = .ok (.invokestatic 116, 3) := by decide +kernel
theorem dX8_lossOf_72 : decode cX8_lossOf 72 = .ok (.ifCond .eq 20, 3) := by decide +kernel
theorem dX8_lossOf_75 : decode cX8_lossOf 75 = .ok (.iconst 0, 1) := by decide +kernel
theorem dX8_lossOf_76 : decode cX8_lossOf 76 = .ok (.iload 6, 2) := by decide +kernel
theorem dX8_lossOf_78 : decode cX8_lossOf 78 = .ok (.iconst 3, 1) := by decide +kernel
theorem dX8_lossOf_79 : decode cX8_lossOf 79 = .ok (.isub, 1) := by decide +kernel
theorem dX8_lossOf_80 : decode cX8_lossOf 80 = .ok (.invokestatic 91, 3) := by decide +kernel
theorem dX8_lossOf_83 : decode cX8_lossOf 83 = .ok (.istore 6, 2) := by decide +kernel
theorem dX8_lossOf_85 : decode cX8_lossOf 85 = .ok (.iload 7, 2) := by decide +kernel
theorem dX8_lossOf_87 : decode cX8_lossOf 87 = .ok (.iload 5, 2) := by decide +kernel
theorem dX8_lossOf_89 : decode cX8_lossOf 89 = .ok (.iadd, 1) := by decide +kernel
theorem dX8_lossOf_90 : decode cX8_lossOf 90 = .ok (.istore 7, 2) := by decide +kernel
theorem dX8_lossOf_92 : decode cX8_lossOf 92 = .ok (.aload_n 0, 1) := by decide +kernel
theorem dX8_lossOf_93 : decode cX8_lossOf 93 = .ok (.iload_n 1, 1) := by decide +kernel
theorem dX8_lossOf_94 : decode cX8_lossOf 94 = .ok (.iconst 4, 1) := by decide +kernel
theorem dX8_lossOf_95 : decode cX8_lossOf 95 = .ok (.invokevirtual 113, 3) := by decide +kernel
theorem dX8_lossOf_98 : decode cX8_lossOf 98 = .ok (.iconst 1, 1) := by decide +kernel
theorem dX8_lossOf_99 : decode cX8_lossOf 99 = .ok (.if_icmp .ne 7, 3) := by decide +kernel
theorem dX8_lossOf_102 : decode cX8_lossOf 102 = .ok (.iconst 0, 1) := by decide +kernel
theorem dX8_lossOf_103 : decode cX8_lossOf 103 = .ok (.goto 5, 3) := by decide +kernel
theorem dX8_lossOf_106 : decode cX8_lossOf 106 = .ok (.iload 7, 2) := by decide +kernel
theorem dX8_lossOf_108 : decode cX8_lossOf 108 = .ok (.istore 7, 2) := by decide +kernel
theorem dX8_lossOf_110 : decode cX8_lossOf 110 = .ok (.aload_n 0, 1) := by decide +kernel
theorem dX8_lossOf_111 : decode cX8_lossOf 111 = .ok (.getfield 9, 3) := by decide +kernel
theorem dX8_lossOf_114 : decode cX8_lossOf 114 = .ok (.bipush 44, 2) := by decide +kernel
theorem dX8_lossOf_116 : decode cX8_lossOf 116 = .ok (.iaload, 1) := by decide +kernel
theorem dX8_lossOf_117 : decode cX8_lossOf 117 = .ok (.iconst 1, 1) := by decide +kernel
theorem dX8_lossOf_118 : decode cX8_lossOf 118 = .ok (.if_icmp .ne 15, 3) := by decide +kernel
theorem dX8_lossOf_121 : decode cX8_lossOf 121 = .ok (.iload 6, 2) := by decide +kernel
theorem dX8_lossOf_123 : decode cX8_lossOf 123 = .ok (.iconst 2, 1) := by decide +kernel
theorem dX8_lossOf_124 : decode cX8_lossOf 124 = .ok (.idiv, 1) := by decide +kernel
theorem dX8_lossOf_125 : decode cX8_lossOf 125 = .ok (.iconst 2, 1) := by decide +kernel
theorem dX8_lossOf_126 : decode cX8_lossOf 126 = .ok (.iload 7, 2) := by decide +kernel
theorem dX8_lossOf_128 : decode cX8_lossOf 128 = .ok (.imul, 1) := by decide +kernel
theorem dX8_lossOf_129 : decode cX8_lossOf 129 = .ok (.iadd, 1) := by decide +kernel
theorem dX8_lossOf_130 : decode cX8_lossOf 130 = .ok (.goto 14, 3) := by decide +kernel
theorem dX8_lossOf_133 : decode cX8_lossOf 133 = .ok (.iload 6, 2) := by decide +kernel
theorem dX8_lossOf_135 : decode cX8_lossOf 135 = .ok (.iload 7, 2) := by decide +kernel
theorem dX8_lossOf_137 : decode cX8_lossOf 137 = .ok (.iadd, 1) := by decide +kernel
theorem dX8_lossOf_138 : decode cX8_lossOf 138 = .ok (.aload_n 0, 1) := by decide +kernel
theorem dX8_lossOf_139 : decode cX8_lossOf 139 = .ok (.iload_n 1, 1) := by decide +kernel
theorem dX8_lossOf_140 : decode cX8_lossOf 140 = .ok (.invokevirtual 120, 3) := by decide +kernel
theorem dX8_lossOf_143 : decode cX8_lossOf 143 = .ok (.iadd, 1) := by decide +kernel
theorem dX8_lossOf_144 : decode cX8_lossOf 144 = .ok (.ireturn, 1) := by decide +kernel
theorem dX8_of_0 : decode cX8_of 0 = .ok (.aload_n 0, 1) := by decide +kernel
theorem dX8_of_1 : decode cX8_of 1 = .ok (.iload_n 1, 1) := by decide +kernel
theorem dX8_of_2 : decode cX8_of 2 = .ok (.invokevirtual 123, 3) := by decide +kernel
theorem dX8_of_5 : decode cX8_of 5 = .ok (.ifCond .eq 13, 3) := by decide +kernel
theorem dX8_of_8 : decode cX8_of 8 = .ok (.iload_n 2, 1) := by decide +kernel
theorem dX8_of_9 : decode cX8_of 9 = .ok (.iconst 0, 1) := by decide +kernel
theorem dX8_of_10 : decode cX8_of 10 = .ok (.bipush 6, 2) := by decide +kernel
theorem dX8_of_12 : decode cX8_of 12 = .ok (.invokestatic 78, 3) := by decide +kernel
theorem dX8_of_15 : decode cX8_of 15 = .ok (.ifCond .ne 10, 3) := by decide +kernel
theorem dX8_of_18 : decode cX8_of 18 = .ok (.aload_n 0, 1) := by decide +kernel
theorem dX8_of_19 : decode cX8_of 19 = .ok (.ldc 73, 2) := by decide +kernel
theorem dX8_of_21 : decode cX8_of 21 = .ok (.invokevirtual 101, 3) := by decide +kernel
theorem dX8_of_24 : decode cX8_of 24 = .ok (.ireturn, 1) := by decide +kernel
theorem dX8_of_25 : decode cX8_of 25 = .ok (.iload_n 2, 1) := by decide +kernel
theorem dX8_of_26 : decode cX8_of 26 = .ok (.iconst 5, 1) := by decide +kernel
theorem dX8_of_27 : decode cX8_of 27 = .ok (.if_icmp .ne 11, 3) := by decide +kernel
theorem dX8_of_30 : decode cX8_of 30 = .ok (.aload_n 0, 1) := by decide +kernel
theorem dX8_of_31 : decode cX8_of 31 = .ok (.iload_n 1, 1) := by decide +kernel
theorem dX8_of_32 : decode cX8_of 32 = .ok (.invokevirtual 126, 3) := by decide +kernel
theorem dX8_of_35 : decode cX8_of 35 = .ok (.goto 23, 3) := by decide +kernel
theorem dX8_of_38 : decode cX8_of 38 = .ok (.iload_n 2, 1) := by decide +kernel
theorem dX8_of_39 : decode cX8_of 39 = .ok (.bipush 6, 2) := by decide +kernel
theorem dX8_of_41 : decode cX8_of 41 = .ok (.if_icmp .ne 11, 3) := by decide +kernel
theorem dX8_of_44 : decode cX8_of 44 = .ok (.aload_n 0, 1) := by decide +kernel
theorem dX8_of_45 : decode cX8_of 45 = .ok (.iload_n 1, 1) := by decide +kernel
theorem dX8_of_46 : decode cX8_of 46 = .ok (.invokevirtual 120, 3) := by decide +kernel
theorem dX8_of_49 : decode cX8_of 49 = .ok (.goto 9, 3) := by decide +kernel
theorem dX8_of_52 : decode cX8_of 52 = .ok (.aload_n 0, 1) := by decide +kernel
theorem dX8_of_53 : decode cX8_of 53 = .ok (.iload_n 1, 1) := by decide +kernel
theorem dX8_of_54 : decode cX8_of 54 = .ok (.iload_n 2, 1) := by decide +kernel
theorem dX8_of_55 : decode cX8_of 55 = .ok (.invokevirtual 113, 3) := by decide +kernel
theorem dX8_of_58 : decode cX8_of 58 = .ok (.ireturn, 1) := by decide +kernel
theorem dX8_change_0 : decode cX8_change 0 = .ok (.iload_n 2, 1) := by decide +kernel
theorem dX8_change_1 : decode cX8_change 1 = .ok (.ifCond .ne 10, 3) := by decide +kernel
theorem dX8_change_4 : decode cX8_change 4 = .ok (.iload_n 3, 1) := by decide +kernel
theorem dX8_change_5 : decode cX8_change 5 = .ok (.invokestatic 94, 3) := by decide +kernel
theorem dX8_change_8 : decode cX8_change 8 = .ok (.ifCond .ne 32, 3) := by decide +kernel
theorem dX8_change_11 : decode cX8_change 11 = .ok (.iload_n 2, 1) := by decide +kernel
theorem dX8_change_12 : decode cX8_change 12 = .ok (.iconst 3, 1) := by decide +kernel
theorem dX8_change_13 : decode cX8_change 13 = .ok (.if_icmp .ne 13, 3) := by decide +kernel
theorem dX8_change_16 : decode cX8_change 16 = .ok (.iload_n 3, 1) := by decide +kernel
theorem dX8_change_17 : decode cX8_change 17 = .ok (.iconst 1, 1) := by decide +kernel
theorem dX8_change_18 : decode cX8_change 18 = .ok (.bipush 20, 2) := by decide +kernel
theorem dX8_change_20 : decode cX8_change 20 = .ok (.invokestatic 78, 3) := by decide +kernel
theorem dX8_change_23 : decode cX8_change 23 = .ok (.ifCond .ne 17, 3) := by decide +kernel
theorem dX8_change_26 : decode cX8_change 26 = .ok (.iload_n 2, 1) := by decide +kernel
theorem dX8_change_27 : decode cX8_change 27 = .ok (.iconst 4, 1) := by decide +kernel
theorem dX8_change_28 : decode cX8_change 28 = .ok (.if_icmp .ne 16, 3) := by decide +kernel
theorem dX8_change_31 : decode cX8_change 31 = .ok (.iload_n 3, 1) := by decide +kernel
theorem dX8_change_32 : decode cX8_change 32 = .ok (.iconst 0, 1) := by decide +kernel
theorem dX8_change_33 : decode cX8_change 33 = .ok (.iconst 1, 1) := by decide +kernel
theorem dX8_change_34 : decode cX8_change 34 = .ok (.invokestatic 78, 3) := by decide +kernel
theorem dX8_change_37 : decode cX8_change 37 = .ok (.ifCond .eq 7, 3) := by decide +kernel
theorem dX8_change_40 : decode cX8_change 40 = .ok (.iconst 1, 1) := by decide +kernel
theorem dX8_change_41 : decode cX8_change 41 = .ok (.goto 4, 3) := by decide +kernel
theorem dX8_change_44 : decode cX8_change 44 = .ok (.iconst 0, 1) := by decide +kernel
theorem dX8_change_45 : decode cX8_change 45 = .ok (.istore 4, 2) := by decide +kernel
theorem dX8_change_47 : decode cX8_change 47 = .ok (.aload_n 0, 1) := by decide +kernel
theorem dX8_change_48 : decode cX8_change 48 = .ok (.iload_n 1, 1) := by decide +kernel
theorem dX8_change_49 : decode cX8_change 49 = .ok (.invokevirtual 123, 3) := by decide +kernel
theorem dX8_change_52 : decode cX8_change 52 = .ok (.ifCond .eq 21, 3) := by decide +kernel
theorem dX8_change_55 : decode cX8_change 55 = .ok (.iload 4, 2) := by decide +kernel
theorem dX8_change_57 : decode cX8_change 57 = .ok (.ifCond .eq 16, 3) := by decide +kernel
theorem dX8_change_60 : decode cX8_change 60 = .ok (.aload_n 0, 1) := by decide +kernel
theorem dX8_change_61 : decode cX8_change 61 = .ok (.iload_n 1, 1) := by decide +kernel
theorem dX8_change_62 : decode cX8_change 62 = .ok (.iload_n 2, 1) := by decide +kernel
theorem dX8_change_63 : decode cX8_change 63 = .ok (.invokestatic 82, 3) := by decide +kernel
theorem dX8_change_66 : decode cX8_change 66 = .ok (.iload_n 3, 1) := by decide +kernel
theorem dX8_change_67 : decode cX8_change 67 = .ok (.invokevirtual 129, 3) := by decide +kernel
theorem dX8_change_70 : decode cX8_change 70 = .ok (.goto 9, 3) := by decide +kernel
theorem dX8_change_73 : decode cX8_change 73 = .ok (.aload_n 0, 1) := by decide +kernel
theorem dX8_change_74 : decode cX8_change 74 = .ok (.ldc 73, 2) := by decide +kernel
theorem dX8_change_76 : decode cX8_change 76 = .ok (.invokevirtual 101, 3) := by decide +kernel
theorem dX8_change_79 : decode cX8_change 79 = .ok (.ireturn, 1) := by decide +kernel
theorem dX8_quarter_0 : decode cX8_quarter 0 = .ok (.iload_n 1, 1) := by decide +kernel
theorem dX8_quarter_1 : decode cX8_quarter 1 = .ok (.invokestatic 98, 3) := by decide +kernel
theorem dX8_quarter_4 : decode cX8_quarter 4 = .ok (.ifCond .eq 23, 3) := by decide +kernel
theorem dX8_quarter_7 : decode cX8_quarter 7 = .ok (.iload_n 2, 1) := by decide +kernel
theorem dX8_quarter_8 : decode cX8_quarter 8 = .ok (.iconst 0, 1) := by decide +kernel
theorem dX8_quarter_9 : decode cX8_quarter 9 = .ok (.iconst 3, 1) := by decide +kernel
theorem dX8_quarter_10 : decode cX8_quarter 10 = .ok (.invokestatic 78, 3) := by decide +kernel
theorem dX8_quarter_13 : decode cX8_quarter 13 = .ok (.ifCond .eq 14, 3) := by decide +kernel
theorem dX8_quarter_16 : decode cX8_quarter 16 = .ok (.aload_n 0, 1) := by decide +kernel
theorem dX8_quarter_17 : decode cX8_quarter 17 = .ok (.iconst 0, 1) := by decide +kernel
theorem dX8_quarter_18 : decode cX8_quarter 18 = .ok (.iload_n 1, 1) := by decide +kernel
theorem dX8_quarter_19 : decode cX8_quarter 19 = .ok (.iadd, 1) := by decide +kernel
theorem dX8_quarter_20 : decode cX8_quarter 20 = .ok (.iload_n 2, 1) := by decide +kernel
theorem dX8_quarter_21 : decode cX8_quarter 21 = .ok (.invokevirtual 129, 3) := by decide +kernel
theorem dX8_quarter_24 : decode cX8_quarter 24 = .ok (.goto 9, 3) := by decide +kernel
theorem dX8_quarter_27 : decode cX8_quarter 27 = .ok (.aload_n 0, 1) := by decide +kernel
theorem dX8_quarter_28 : decode cX8_quarter 28 = .ok (.ldc 73, 2) := by decide +kernel
theorem dX8_quarter_30 : decode cX8_quarter 30 = .ok (.invokevirtual 101, 3) := by decide +kernel
theorem dX8_quarter_33 : decode cX8_quarter 33 = .ok (.ireturn, 1) := by decide +kernel
theorem dX8_isSpell_0 : decode cX8_isSpell 0 = .ok (.iload_n 0, 1) := by decide +kernel
theorem dX8_isSpell_1 : decode cX8_isSpell 1 = .ok (.iconst 0, 1) := by decide +kernel
theorem dX8_isSpell_2 : decode cX8_isSpell 2 = .ok (.bipush 11, 2) := by decide +kernel
theorem dX8_isSpell_4 : decode cX8_isSpell 4 = .ok (.invokestatic 78, 3) := by decide +kernel
theorem dX8_isSpell_7 : decode cX8_isSpell 7 = .ok (.ireturn, 1) := by decide +kernel
theorem dX8_spell_0 : decode cX8_spell 0 = .ok (.iload_n 1, 1) := by decide +kernel
theorem dX8_spell_1 : decode cX8_spell 1 = .ok (.invokestatic 132, 3) := by decide +kernel
theorem dX8_spell_4 : decode cX8_spell 4 = .ok (.ifCond .eq 26, 3) := by decide +kernel
theorem dX8_spell_7 : decode cX8_spell 7 = .ok (.iload_n 2, 1) := by decide +kernel
theorem dX8_spell_8 : decode cX8_spell 8 = .ok (.iconst 0, 1) := by decide +kernel
theorem dX8_spell_9 : decode cX8_spell 9 = .ok (.iconst 1, 1) := by decide +kernel
theorem dX8_spell_10 : decode cX8_spell 10 = .ok (.invokestatic 78, 3) := by decide +kernel
theorem dX8_spell_13 : decode cX8_spell 13 = .ok (.ifCond .eq 17, 3) := by decide +kernel
theorem dX8_spell_16 : decode cX8_spell 16 = .ok (.iload_n 3, 1) := by decide +kernel
theorem dX8_spell_17 : decode cX8_spell 17 = .ok (.iconst 0, 1) := by decide +kernel
theorem dX8_spell_18 : decode cX8_spell 18 = .ok (.bipush 9, 2) := by decide +kernel
theorem dX8_spell_20 : decode cX8_spell 20 = .ok (.invokestatic 78, 3) := by decide +kernel
theorem dX8_spell_23 : decode cX8_spell 23 = .ok (.ifCond .eq 7, 3) := by decide +kernel
theorem dX8_spell_26 : decode cX8_spell 26 = .ok (.iconst 1, 1) := by decide +kernel
theorem dX8_spell_27 : decode cX8_spell 27 = .ok (.goto 4, 3) := by decide +kernel
theorem dX8_spell_30 : decode cX8_spell 30 = .ok (.iconst 0, 1) := by decide +kernel
theorem dX8_spell_31 : decode cX8_spell 31 = .ok (.istore 4, 2) := by decide +kernel
theorem dX8_spell_33 : decode cX8_spell 33 = .ok (.iload 4, 2) := by decide +kernel
theorem dX8_spell_35 : decode cX8_spell 35 = .ok (.ifCond .eq 24, 3) := by decide +kernel
theorem dX8_spell_38 : decode cX8_spell 38 = .ok (.aload_n 0, 1) := by decide +kernel
theorem dX8_spell_39 : decode cX8_spell 39 = .ok (.iload_n 2, 1) := by decide +kernel
theorem dX8_spell_40 : decode cX8_spell 40 = .ok (.ifCond .ne 8, 3) := by decide +kernel
theorem dX8_spell_43 : decode cX8_spell 43 = .ok (.bipush 20, 2) := by decide +kernel
theorem dX8_spell_45 : decode cX8_spell 45 = .ok (.goto 5, 3) := by decide +kernel
theorem dX8_spell_48 : decode cX8_spell 48 = .ok (.bipush 32, 2) := by decide +kernel
theorem dX8_spell_50 : decode cX8_spell 50 = .ok (.iload_n 1, 1) := by decide +kernel
theorem dX8_spell_51 : decode cX8_spell 51 = .ok (.iadd, 1) := by decide +kernel
theorem dX8_spell_52 : decode cX8_spell 52 = .ok (.iload_n 3, 1) := by decide +kernel
theorem dX8_spell_53 : decode cX8_spell 53 = .ok (.invokevirtual 129, 3) := by decide +kernel
theorem dX8_spell_56 : decode cX8_spell 56 = .ok (.goto 9, 3) := by decide +kernel
theorem dX8_spell_59 : decode cX8_spell 59 = .ok (.aload_n 0, 1) := by decide +kernel
theorem dX8_spell_60 : decode cX8_spell 60 = .ok (.ldc 73, 2) := by decide +kernel
theorem dX8_spell_62 : decode cX8_spell 62 = .ok (.invokevirtual 101, 3) := by decide +kernel
theorem dX8_spell_65 : decode cX8_spell 65 = .ok (.ireturn, 1) := by decide +kernel
theorem dX8_loss_0 : decode cX8_loss 0 = .ok (.aload_n 0, 1) := by decide +kernel
theorem dX8_loss_1 : decode cX8_loss 1 = .ok (.iload_n 1, 1) := by decide +kernel
theorem dX8_loss_2 : decode cX8_loss 2 = .ok (.invokevirtual 123, 3) := by decide +kernel
theorem dX8_loss_5 : decode cX8_loss 5 = .ok (.ifCond .eq 19, 3) := by decide +kernel
theorem dX8_loss_8 : decode cX8_loss 8 = .ok (.iload_n 2, 1) := by decide +kernel
theorem dX8_loss_9 : decode cX8_loss 9 = .ok (.invokestatic 132, 3) := by decide +kernel
theorem dX8_loss_12 : decode cX8_loss 12 = .ok (.ifCond .eq 12, 3) := by decide +kernel
theorem dX8_loss_15 : decode cX8_loss 15 = .ok (.aload_n 0, 1) := by decide +kernel
theorem dX8_loss_16 : decode cX8_loss 16 = .ok (.iload_n 1, 1) := by decide +kernel
theorem dX8_loss_17 : decode cX8_loss 17 = .ok (.iload_n 2, 1) := by decide +kernel
theorem dX8_loss_18 : decode cX8_loss 18 = .ok (.invokevirtual 135, 3) := by decide +kernel
theorem dX8_loss_21 : decode cX8_loss 21 = .ok (.goto 9, 3) := by decide +kernel
theorem dX8_loss_24 : decode cX8_loss 24 = .ok (.aload_n 0, 1) := by decide +kernel
theorem dX8_loss_25 : decode cX8_loss 25 = .ok (.ldc 73, 2) := by decide +kernel
theorem dX8_loss_27 : decode cX8_loss 27 = .ok (.invokevirtual 101, 3) := by decide +kernel
theorem dX8_loss_30 : decode cX8_loss 30 = .ok (.ireturn, 1) := by decide +kernel
theorem dX8_streetBy_0 : decode cX8_streetBy 0 = .ok (.iconst (-1), 1) := by decide +kernel
theorem dX8_streetBy_1 : decode cX8_streetBy 1 = .ok (.istore_n 3, 1) := by decide +kernel
theorem dX8_streetBy_2 : decode cX8_streetBy 2 = .ok (.aload_n 0, 1) := by decide +kernel
theorem dX8_streetBy_3 : decode cX8_streetBy 3 = .ok (.getfield 9, 3) := by decide +kernel
theorem dX8_streetBy_6 : decode cX8_streetBy 6 = .ok (.bipush 8, 2) := by decide +kernel
theorem dX8_streetBy_8 : decode cX8_streetBy 8 = .ok (.iaload, 1) := by decide +kernel
theorem dX8_streetBy_9 : decode cX8_streetBy 9 = .ok (.iconst 1, 1) := by decide +kernel
theorem dX8_streetBy_10 : decode cX8_streetBy 10 = .ok (.isub, 1) := by decide +kernel
theorem dX8_streetBy_11 : decode cX8_streetBy 11 = .ok (.istore 4, 2) := by decide +kernel
theorem dX8_streetBy_13 : decode cX8_streetBy 13 = .ok (.iload 4, 2) := by decide +kernel
theorem dX8_streetBy_15 : decode cX8_streetBy 15 = .ok (.ifCond .lt 67, 3) := by decide +kernel
theorem dX8_streetBy_18 : decode cX8_streetBy 18 = .ok (.aload_n 0, 1) := by decide +kernel
theorem dX8_streetBy_19 : decode cX8_streetBy 19 = .ok (.iload 4, 2) := by decide +kernel
theorem dX8_streetBy_21 : decode cX8_streetBy 21 = .ok (.iconst 1, 1) := by decide +kernel
theorem dX8_streetBy_22 : decode cX8_streetBy 22 = .ok (.invokevirtual 113, 3) := by decide +kernel
theorem dX8_streetBy_25 : decode cX8_streetBy 25 = .ok (.iload_n 1, 1) := by decide +kernel
theorem dX8_streetBy_26 : decode cX8_streetBy 26 = .ok (.iload_n 2, 1) := by decide +kernel
theorem dX8_streetBy_27 : decode cX8_streetBy 27 = .ok (.invokestatic 86, 3) := by decide +kernel
theorem dX8_streetBy_30 : decode cX8_streetBy 30 = .ok (.if_icmp .ne 22, 3) := by decide +kernel
theorem dX8_streetBy_33 : decode cX8_streetBy 33 = .ok (.aload_n 0, 1) := by decide +kernel
theorem dX8_streetBy_34 : decode cX8_streetBy 34 = .ok (.iload 4, 2) := by decide +kernel
theorem dX8_streetBy_36 : decode cX8_streetBy 36 = .ok (.iconst 2, 1) := by decide +kernel
theorem dX8_streetBy_37 : decode cX8_streetBy 37 = .ok (.invokevirtual 113, 3) := by decide +kernel
theorem dX8_streetBy_40 : decode cX8_streetBy 40 = .ok (.iload_n 1, 1) := by decide +kernel
theorem dX8_streetBy_41 : decode cX8_streetBy 41 = .ok (.iload_n 2, 1) := by decide +kernel
theorem dX8_streetBy_42 : decode cX8_streetBy 42 = .ok (.invokestatic 91, 3) := by decide +kernel
theorem dX8_streetBy_45 : decode cX8_streetBy 45 = .ok (.if_icmp .ne 7, 3) := by decide +kernel
theorem dX8_streetBy_48 : decode cX8_streetBy 48 = .ok (.iconst 1, 1) := by decide +kernel
theorem dX8_streetBy_49 : decode cX8_streetBy 49 = .ok (.goto 4, 3) := by decide +kernel
theorem dX8_streetBy_52 : decode cX8_streetBy 52 = .ok (.iconst 0, 1) := by decide +kernel
theorem dX8_streetBy_53 : decode cX8_streetBy 53 = .ok (.istore 5, 2) := by decide +kernel
theorem dX8_streetBy_55 : decode cX8_streetBy 55 = .ok (.iload 5, 2) := by decide +kernel
theorem dX8_streetBy_57 : decode cX8_streetBy 57 = .ok (.ifCond .eq 17, 3) := by decide +kernel
theorem dX8_streetBy_60 : decode cX8_streetBy 60 = .ok (.iload 4, 2) := by decide +kernel
theorem dX8_streetBy_62 : decode cX8_streetBy 62 = .ok (.aload_n 0, 1) := by decide +kernel
theorem dX8_streetBy_63 : decode cX8_streetBy 63 = .ok (.getfield 22, 3) := by decide +kernel
theorem dX8_streetBy_66 : decode cX8_streetBy 66 = .ok (.if_icmp .eq 8, 3) := by decide +kernel
theorem dX8_streetBy_69 : decode cX8_streetBy 69 = .ok (.iload 4, 2) := by decide +kernel
theorem dX8_streetBy_71 : decode cX8_streetBy 71 = .ok (.goto 4, 3) := by decide +kernel
theorem dX8_streetBy_74 : decode cX8_streetBy 74 = .ok (.iload_n 3, 1) := by decide +kernel
theorem dX8_streetBy_75 : decode cX8_streetBy 75 = .ok (.istore_n 3, 1) := by decide +kernel
theorem dX8_streetBy_76 : decode cX8_streetBy 76 = .ok (.iinc 4 (-1), 3) := by decide +kernel
theorem dX8_streetBy_79 : decode cX8_streetBy 79 = .ok (.goto (-66), 3) := by decide +kernel
theorem dX8_streetBy_82 : decode cX8_streetBy 82 = .ok (.iload_n 3, 1) := by decide +kernel
theorem dX8_streetBy_83 : decode cX8_streetBy 83 = .ok (.ireturn, 1) := by decide +kernel
theorem dX8_nextTo_0 : decode cX8_nextTo 0 = .ok (.iconst 0, 1) := by decide +kernel
theorem dX8_nextTo_1 : decode cX8_nextTo 1 = .ok (.istore_n 2, 1) := by decide +kernel
theorem dX8_nextTo_2 : decode cX8_nextTo 2 = .ok (.iconst 0, 1) := by decide +kernel
theorem dX8_nextTo_3 : decode cX8_nextTo 3 = .ok (.istore_n 3, 1) := by decide +kernel
theorem dX8_nextTo_4 : decode cX8_nextTo 4 = .ok (.iload_n 3, 1) := by decide +kernel
theorem dX8_nextTo_5 : decode cX8_nextTo 5 = .ok (.bipush 8, 2) := by decide +kernel
theorem dX8_nextTo_7 : decode cX8_nextTo 7 = .ok (.if_icmp .ge 28, 3) := by decide +kernel
theorem dX8_nextTo_10 : decode cX8_nextTo 10 = .ok (.iload_n 2, 1) := by decide +kernel
theorem dX8_nextTo_11 : decode cX8_nextTo 11 = .ok (.aload_n 0, 1) := by decide +kernel
theorem dX8_nextTo_12 : decode cX8_nextTo 12 = .ok (.iload_n 1, 1) := by decide +kernel
theorem dX8_nextTo_13 : decode cX8_nextTo 13 = .ok (.iload_n 3, 1) := by decide +kernel
theorem dX8_nextTo_14 : decode cX8_nextTo 14 = .ok (.invokevirtual 138, 3) := by decide +kernel
theorem dX8_nextTo_17 : decode cX8_nextTo 17 = .ok (.ifCond .lt 9, 3) := by decide +kernel
theorem dX8_nextTo_20 : decode cX8_nextTo 20 = .ok (.iconst 1, 1) := by decide +kernel
theorem dX8_nextTo_21 : decode cX8_nextTo 21 = .ok (.iload_n 3, 1) := by decide +kernel
theorem dX8_nextTo_22 : decode cX8_nextTo 22 = .ok (.ishl, 1) := by decide +kernel
theorem dX8_nextTo_23 : decode cX8_nextTo 23 = .ok (.goto 4, 3) := by decide +kernel
theorem dX8_nextTo_26 : decode cX8_nextTo 26 = .ok (.iconst 0, 1) := by decide +kernel
theorem dX8_nextTo_27 : decode cX8_nextTo 27 = .ok (.ior, 1) := by decide +kernel
theorem dX8_nextTo_28 : decode cX8_nextTo 28 = .ok (.istore_n 2, 1) := by decide +kernel
theorem dX8_nextTo_29 : decode cX8_nextTo 29 = .ok (.iinc 3 1, 3) := by decide +kernel
theorem dX8_nextTo_32 : decode cX8_nextTo 32 = .ok (.goto (-28), 3) := by decide +kernel
theorem dX8_nextTo_35 : decode cX8_nextTo 35 = .ok (.iload_n 2, 1) := by decide +kernel
theorem dX8_nextTo_36 : decode cX8_nextTo 36 = .ok (.ireturn, 1) := by decide +kernel
theorem dX8_next_0 : decode cX8_next 0 = .ok (.iload_n 1, 1) := by decide +kernel
theorem dX8_next_1 : decode cX8_next 1 = .ok (.invokestatic 98, 3) := by decide +kernel
theorem dX8_next_4 : decode cX8_next 4 = .ok (.ifCond .eq 11, 3) := by decide +kernel
theorem dX8_next_7 : decode cX8_next 7 = .ok (.aload_n 0, 1) := by decide +kernel
theorem dX8_next_8 : decode cX8_next 8 = .ok (.iload_n 1, 1) := by decide +kernel
theorem dX8_next_9 : decode cX8_next 9 = .ok (.invokevirtual 141, 3) := by decide +kernel
theorem dX8_next_12 : decode cX8_next 12 = .ok (.goto 9, 3) := by decide +kernel
theorem dX8_next_15 : decode cX8_next 15 = .ok (.aload_n 0, 1) := by decide +kernel
theorem dX8_next_16 : decode cX8_next 16 = .ok (.ldc 73, 2) := by decide +kernel
theorem dX8_next_18 : decode cX8_next 18 = .ok (.invokevirtual 101, 3) := by decide +kernel
theorem dX8_next_21 : decode cX8_next 21 = .ok (.ireturn, 1) := by decide +kernel
theorem dX8_by_0 : decode cX8_by 0 = .ok (.iload_n 1, 1) := by decide +kernel
theorem dX8_by_1 : decode cX8_by 1 = .ok (.invokestatic 98, 3) := by decide +kernel
theorem dX8_by_4 : decode cX8_by 4 = .ok (.ifCond .eq 15, 3) := by decide +kernel
theorem dX8_by_7 : decode cX8_by 7 = .ok (.iload_n 2, 1) := by decide +kernel
theorem dX8_by_8 : decode cX8_by 8 = .ok (.invokestatic 98, 3) := by decide +kernel
theorem dX8_by_11 : decode cX8_by 11 = .ok (.ifCond .eq 8, 3) := by decide +kernel
theorem dX8_by_14 : decode cX8_by 14 = .ok (.iload_n 1, 1) := by decide +kernel
theorem dX8_by_15 : decode cX8_by 15 = .ok (.iload_n 2, 1) := by decide +kernel
theorem dX8_by_16 : decode cX8_by 16 = .ok (.if_icmp .ne 10, 3) := by decide +kernel
theorem dX8_by_19 : decode cX8_by 19 = .ok (.aload_n 0, 1) := by decide +kernel
theorem dX8_by_20 : decode cX8_by 20 = .ok (.ldc 73, 2) := by decide +kernel
theorem dX8_by_22 : decode cX8_by 22 = .ok (.invokevirtual 101, 3) := by decide +kernel
theorem dX8_by_25 : decode cX8_by 25 = .ok (.ireturn, 1) := by decide +kernel
theorem dX8_by_26 : decode cX8_by 26 = .ok (.aload_n 0, 1) := by decide +kernel
theorem dX8_by_27 : decode cX8_by 27 = .ok (.iload_n 1, 1) := by decide +kernel
theorem dX8_by_28 : decode cX8_by 28 = .ok (.iload_n 2, 1) := by decide +kernel
theorem dX8_by_29 : decode cX8_by 29 = .ok (.invokevirtual 138, 3) := by decide +kernel
theorem dX8_by_32 : decode cX8_by 32 = .ok (.istore_n 3, 1) := by decide +kernel
theorem dX8_by_33 : decode cX8_by 33 = .ok (.iload_n 3, 1) := by decide +kernel
theorem dX8_by_34 : decode cX8_by 34 = .ok (.ifCond .ge 12, 3) := by decide +kernel
theorem dX8_by_37 : decode cX8_by 37 = .ok (.aload_n 0, 1) := by decide +kernel
theorem dX8_by_38 : decode cX8_by 38 = .ok (.ldc 144, 2) := by decide +kernel
theorem dX8_by_40 : decode cX8_by 40 = .ok (.invokevirtual 101, 3) := by decide +kernel
theorem dX8_by_43 : decode cX8_by 43 = .ok (.goto 4, 3) := by decide +kernel
theorem dX8_by_46 : decode cX8_by 46 = .ok (.iload_n 3, 1) := by decide +kernel
theorem dX8_by_47 : decode cX8_by 47 = .ok (.ireturn, 1) := by decide +kernel
theorem dX8_grains_0 : decode cX8_grains 0 = .ok (.iload_n 1, 1) := by decide +kernel
theorem dX8_grains_1 : decode cX8_grains 1 = .ok (.iconst 0, 1) := by decide +kernel
theorem dX8_grains_2 : decode cX8_grains 2 = .ok (.iconst 3, 1) := by decide +kernel
theorem dX8_grains_3 : decode cX8_grains 3 = .ok (.invokestatic 78, 3) := by decide +kernel
theorem dX8_grains_6 : decode cX8_grains 6 = .ok (.ifCond .eq 26, 3) := by decide +kernel
theorem dX8_grains_9 : decode cX8_grains 9 = .ok (.iload_n 2, 1) := by decide +kernel
theorem dX8_grains_10 : decode cX8_grains 10 = .ok (.iconst 0, 1) := by decide +kernel
theorem dX8_grains_11 : decode cX8_grains 11 = .ok (.sipush 9999, 3) := by decide +kernel
theorem dX8_grains_14 : decode cX8_grains 14 = .ok (.invokestatic 78, 3) := by decide +kernel
theorem dX8_grains_17 : decode cX8_grains 17 = .ok (.ifCond .eq 15, 3) := by decide +kernel
theorem dX8_grains_20 : decode cX8_grains 20 = .ok (.aload_n 0, 1) := by decide +kernel
theorem dX8_grains_21 : decode cX8_grains 21 = .ok (.bipush 45, 2) := by decide +kernel
theorem dX8_grains_23 : decode cX8_grains 23 = .ok (.iload_n 1, 1) := by decide +kernel
theorem dX8_grains_24 : decode cX8_grains 24 = .ok (.iadd, 1) := by decide +kernel
theorem dX8_grains_25 : decode cX8_grains 25 = .ok (.iload_n 2, 1) := by decide +kernel
theorem dX8_grains_26 : decode cX8_grains 26 = .ok (.invokevirtual 129, 3) := by decide +kernel
theorem dX8_grains_29 : decode cX8_grains 29 = .ok (.goto 9, 3) := by decide +kernel
theorem dX8_grains_32 : decode cX8_grains 32 = .ok (.aload_n 0, 1) := by decide +kernel
theorem dX8_grains_33 : decode cX8_grains 33 = .ok (.ldc 73, 2) := by decide +kernel
theorem dX8_grains_35 : decode cX8_grains 35 = .ok (.invokevirtual 101, 3) := by decide +kernel
theorem dX8_grains_38 : decode cX8_grains 38 = .ok (.ireturn, 1) := by decide +kernel
theorem dX8_allGrains_0 : decode cX8_allGrains 0 = .ok (.aload_n 0, 1) := by decide +kernel
theorem dX8_allGrains_1 : decode cX8_allGrains 1 = .ok (.getfield 9, 3) := by decide +kernel
theorem dX8_allGrains_4 : decode cX8_allGrains 4 = .ok (.bipush 45, 2) := by decide +kernel
theorem dX8_allGrains_6 : decode cX8_allGrains 6 = .ok (.iaload, 1) := by decide +kernel
theorem dX8_allGrains_7 : decode cX8_allGrains 7 = .ok (.aload_n 0, 1) := by decide +kernel
theorem dX8_allGrains_8 : decode cX8_allGrains 8 = .ok (.getfield 9, 3) := by decide +kernel
theorem dX8_allGrains_11 : decode cX8_allGrains 11 = .ok (.bipush 46, 2) := by decide +kernel
theorem dX8_allGrains_13 : decode cX8_allGrains 13 = .ok (.iaload, 1) := by decide +kernel
theorem dX8_allGrains_14 : decode cX8_allGrains 14 = .ok (.iadd, 1) := by decide +kernel
theorem dX8_allGrains_15 : decode cX8_allGrains 15 = .ok (.aload_n 0, 1) := by decide +kernel
theorem dX8_allGrains_16 : decode cX8_allGrains 16 = .ok (.getfield 9, 3) := by decide +kernel
theorem dX8_allGrains_19 : decode cX8_allGrains 19 = .ok (.bipush 47, 2) := by decide +kernel
theorem dX8_allGrains_21 : decode cX8_allGrains 21 = .ok (.iaload, 1) := by decide +kernel
theorem dX8_allGrains_22 : decode cX8_allGrains 22 = .ok (.iadd, 1) := by decide +kernel
theorem dX8_allGrains_23 : decode cX8_allGrains 23 = .ok (.aload_n 0, 1) := by decide +kernel
theorem dX8_allGrains_24 : decode cX8_allGrains 24 = .ok (.getfield 9, 3) := by decide +kernel
theorem dX8_allGrains_27 : decode cX8_allGrains 27 = .ok (.bipush 48, 2) := by decide +kernel
theorem dX8_allGrains_29 : decode cX8_allGrains 29 = .ok (.iaload, 1) := by decide +kernel
theorem dX8_allGrains_30 : decode cX8_allGrains 30 = .ok (.iadd, 1) := by decide +kernel
theorem dX8_allGrains_31 : decode cX8_allGrains 31 = .ok (.ireturn, 1) := by decide +kernel
theorem dX8_now_0 : decode cX8_now 0 = .ok (.iload_n 1, 1) := by decide +kernel
theorem dX8_now_1 : decode cX8_now 1 = .ok (.iconst 0, 1) := by decide +kernel
theorem dX8_now_2 : decode cX8_now 2 = .ok (.bipush 9, 2) := by decide +kernel
theorem dX8_now_4 : decode cX8_now 4 = .ok (.invokestatic 78, 3) := by decide +kernel
theorem dX8_now_7 : decode cX8_now 7 = .ok (.ifCond .ne 10, 3) := by decide +kernel
theorem dX8_now_10 : decode cX8_now 10 = .ok (.aload_n 0, 1) := by decide +kernel
theorem dX8_now_11 : decode cX8_now 11 = .ok (.ldc 73, 2) := by decide +kernel
theorem dX8_now_13 : decode cX8_now 13 = .ok (.invokevirtual 101, 3) := by decide +kernel
theorem dX8_now_16 : decode cX8_now 16 = .ok (.ireturn, 1) := by decide +kernel
theorem dX8_now_17 : decode cX8_now 17 = .ok (.iload_n 1, 1) := by decide +kernel
theorem dX8_now_18 : decode cX8_now 18 = .ok (.iconst 4, 1) := by decide +kernel
theorem dX8_now_19 : decode cX8_now 19 = .ok (.if_icmp .ge 15, 3) := by decide +kernel
theorem dX8_now_22 : decode cX8_now 22 = .ok (.aload_n 0, 1) := by decide +kernel
theorem dX8_now_23 : decode cX8_now 23 = .ok (.getfield 9, 3) := by decide +kernel
theorem dX8_now_26 : decode cX8_now 26 = .ok (.bipush 45, 2) := by decide +kernel
theorem dX8_now_28 : decode cX8_now 28 = .ok (.iload_n 1, 1) := by decide +kernel
theorem dX8_now_29 : decode cX8_now 29 = .ok (.iadd, 1) := by decide +kernel
theorem dX8_now_30 : decode cX8_now 30 = .ok (.iaload, 1) := by decide +kernel
theorem dX8_now_31 : decode cX8_now 31 = .ok (.goto 42, 3) := by decide +kernel
theorem dX8_now_34 : decode cX8_now 34 = .ok (.iload_n 1, 1) := by decide +kernel
theorem dX8_now_35 : decode cX8_now 35 = .ok (.iconst 4, 1) := by decide +kernel
theorem dX8_now_36 : decode cX8_now 36 = .ok (.if_icmp .ne 10, 3) := by decide +kernel
theorem dX8_now_39 : decode cX8_now 39 = .ok (.aload_n 0, 1) := by decide +kernel
theorem dX8_now_40 : decode cX8_now 40 = .ok (.invokevirtual 145, 3) := by decide +kernel
theorem dX8_now_43 : decode cX8_now 43 = .ok (.goto 30, 3) := by decide +kernel
theorem dX8_now_46 : decode cX8_now 46 = .ok (.iload_n 1, 1) := by decide +kernel
theorem dX8_now_47 : decode cX8_now 47 = .ok (.iconst 5, 1) := by decide +kernel
theorem dX8_now_48 : decode cX8_now 48 = .ok (.if_icmp .ne 13, 3) := by decide +kernel
theorem dX8_now_51 : decode cX8_now 51 = .ok (.aload_n 0, 1) := by decide +kernel
theorem dX8_now_52 : decode cX8_now 52 = .ok (.getfield 9, 3) := by decide +kernel
theorem dX8_now_55 : decode cX8_now 55 = .ok (.bipush 44, 2) := by decide +kernel
theorem dX8_now_57 : decode cX8_now 57 = .ok (.iaload, 1) := by decide +kernel
theorem dX8_now_58 : decode cX8_now 58 = .ok (.goto 15, 3) := by decide +kernel
theorem dX8_now_61 : decode cX8_now 61 = .ok (.aload_n 0, 1) := by decide +kernel
theorem dX8_now_62 : decode cX8_now 62 = .ok (.getfield 9, 3) := by decide +kernel
theorem dX8_now_65 : decode cX8_now 65 = .ok (.bipush 49, 2) := by decide +kernel
theorem dX8_now_67 : decode cX8_now 67 = .ok (.iload_n 1, 1) := by decide +kernel
theorem dX8_now_68 : decode cX8_now 68 = .ok (.iadd, 1) := by decide +kernel
theorem dX8_now_69 : decode cX8_now 69 = .ok (.bipush 6, 2) := by decide +kernel
theorem dX8_now_71 : decode cX8_now 71 = .ok (.isub, 1) := by decide +kernel
theorem dX8_now_72 : decode cX8_now 72 = .ok (.iaload, 1) := by decide +kernel
theorem dX8_now_73 : decode cX8_now 73 = .ok (.ireturn, 1) := by decide +kernel
theorem dX8_made_0 : decode cX8_made 0 = .ok (.iload_n 1, 1) := by decide +kernel
theorem dX8_made_1 : decode cX8_made 1 = .ok (.iconst 0, 1) := by decide +kernel
theorem dX8_made_2 : decode cX8_made 2 = .ok (.iconst 1, 1) := by decide +kernel
theorem dX8_made_3 : decode cX8_made 3 = .ok (.invokestatic 78, 3) := by decide +kernel
theorem dX8_made_6 : decode cX8_made 6 = .ok (.ifCond .eq 13, 3) := by decide +kernel
theorem dX8_made_9 : decode cX8_made 9 = .ok (.aload_n 0, 1) := by decide +kernel
theorem dX8_made_10 : decode cX8_made 10 = .ok (.bipush 44, 2) := by decide +kernel
theorem dX8_made_12 : decode cX8_made 12 = .ok (.iload_n 1, 1) := by decide +kernel
theorem dX8_made_13 : decode cX8_made 13 = .ok (.invokevirtual 129, 3) := by decide +kernel
theorem dX8_made_16 : decode cX8_made 16 = .ok (.goto 9, 3) := by decide +kernel
theorem dX8_made_19 : decode cX8_made 19 = .ok (.aload_n 0, 1) := by decide +kernel
theorem dX8_made_20 : decode cX8_made 20 = .ok (.ldc 73, 2) := by decide +kernel
theorem dX8_made_22 : decode cX8_made 22 = .ok (.invokevirtual 101, 3) := by decide +kernel
theorem dX8_made_25 : decode cX8_made 25 = .ok (.ireturn, 1) := by decide +kernel
theorem dX8_spellOf_0 : decode cX8_spellOf 0 = .ok (.iload_n 0, 1) := by decide +kernel
theorem dX8_spellOf_1 : decode cX8_spellOf 1 = .ok (.bipush 20, 2) := by decide +kernel
theorem dX8_spellOf_3 : decode cX8_spellOf 3 = .ok (.idiv, 1) := by decide +kernel
theorem dX8_spellOf_4 : decode cX8_spellOf 4 = .ok (.bipush 11, 2) := by decide +kernel
theorem dX8_spellOf_6 : decode cX8_spellOf 6 = .ok (.invokestatic 86, 3) := by decide +kernel
theorem dX8_spellOf_9 : decode cX8_spellOf 9 = .ok (.ireturn, 1) := by decide +kernel
theorem dX8_minuteOn_0 : decode cX8_minuteOn 0 = .ok (.aload_n 0, 1) := by decide +kernel
theorem dX8_minuteOn_1 : decode cX8_minuteOn 1 = .ok (.iload_n 1, 1) := by decide +kernel
theorem dX8_minuteOn_2 : decode cX8_minuteOn 2 = .ok (.aload_n 0, 1) := by decide +kernel
theorem dX8_minuteOn_3 : decode cX8_minuteOn 3 = .ok (.getfield 9, 3) := by decide +kernel
theorem dX8_minuteOn_6 : decode cX8_minuteOn 6 = .ok (.bipush 50, 2) := by decide +kernel
theorem dX8_minuteOn_8 : decode cX8_minuteOn 8 = .ok (.iaload, 1) := by decide +kernel
theorem dX8_minuteOn_9 : decode cX8_minuteOn 9 = .ok (.invokestatic 149, 3) := by decide +kernel
theorem dX8_minuteOn_12 : decode cX8_minuteOn 12 = .ok (.invokevirtual 135, 3) := by decide +kernel
theorem dX8_minuteOn_15 : decode cX8_minuteOn 15 = .ok (.istore_n 2, 1) := by decide +kernel
theorem dX8_minuteOn_16 : decode cX8_minuteOn 16 = .ok (.iconst 0, 1) := by decide +kernel
theorem dX8_minuteOn_17 : decode cX8_minuteOn 17 = .ok (.istore_n 3, 1) := by decide +kernel
theorem dX8_minuteOn_18 : decode cX8_minuteOn 18 = .ok (.iload_n 3, 1) := by decide +kernel
theorem dX8_minuteOn_19 : decode cX8_minuteOn 19 = .ok (.iconst 4, 1) := by decide +kernel
theorem dX8_minuteOn_20 : decode cX8_minuteOn 20 = .ok (.if_icmp .ge 55, 3) := by decide +kernel
theorem dX8_minuteOn_23 : decode cX8_minuteOn 23 = .ok (.iload_n 2, 1) := by decide +kernel
theorem dX8_minuteOn_24 : decode cX8_minuteOn 24 = .ok (.aload_n 0, 1) := by decide +kernel
theorem dX8_minuteOn_25 : decode cX8_minuteOn 25 = .ok (.getfield 9, 3) := by decide +kernel
theorem dX8_minuteOn_28 : decode cX8_minuteOn 28 = .ok (.bipush 45, 2) := by decide +kernel
theorem dX8_minuteOn_30 : decode cX8_minuteOn 30 = .ok (.iload_n 3, 1) := by decide +kernel
theorem dX8_minuteOn_31 : decode cX8_minuteOn 31 = .ok (.iadd, 1) := by decide +kernel
theorem dX8_minuteOn_32 : decode cX8_minuteOn 32 = .ok (.iaload, 1) := by decide +kernel
theorem dX8_minuteOn_33 : decode cX8_minuteOn 33 = .ok (.invokestatic 86, 3) := by decide +kernel
theorem dX8_minuteOn_36 : decode cX8_minuteOn 36 = .ok (.istore 4, 2) := by decide +kernel
theorem dX8_minuteOn_38 : decode cX8_minuteOn 38 = .ok (.aload_n 0, 1) := by decide +kernel
theorem dX8_minuteOn_39 : decode cX8_minuteOn 39 = .ok (.getfield 9, 3) := by decide +kernel
theorem dX8_minuteOn_42 : decode cX8_minuteOn 42 = .ok (.bipush 45, 2) := by decide +kernel
theorem dX8_minuteOn_44 : decode cX8_minuteOn 44 = .ok (.iload_n 3, 1) := by decide +kernel
theorem dX8_minuteOn_45 : decode cX8_minuteOn 45 = .ok (.iadd, 1) := by decide +kernel
theorem dX8_minuteOn_46 : decode cX8_minuteOn 46 = .ok (.dup2, 1) := by decide +kernel
theorem dX8_minuteOn_47 : decode cX8_minuteOn 47 = .ok (.iaload, 1) := by decide +kernel
theorem dX8_minuteOn_48 : decode cX8_minuteOn 48 = .ok (.iload 4, 2) := by decide +kernel
theorem dX8_minuteOn_50 : decode cX8_minuteOn 50 = .ok (.isub, 1) := by decide +kernel
theorem dX8_minuteOn_51 : decode cX8_minuteOn 51 = .ok (.iastore, 1) := by decide +kernel
theorem dX8_minuteOn_52 : decode cX8_minuteOn 52 = .ok (.aload_n 0, 1) := by decide +kernel
theorem dX8_minuteOn_53 : decode cX8_minuteOn 53 = .ok (.getfield 9, 3) := by decide +kernel
theorem dX8_minuteOn_56 : decode cX8_minuteOn 56 = .ok (.bipush 52, 2) := by decide +kernel
theorem dX8_minuteOn_58 : decode cX8_minuteOn 58 = .ok (.dup2, 1) := by decide +kernel
theorem dX8_minuteOn_59 : decode cX8_minuteOn 59 = .ok (.iaload, 1) := by decide +kernel
theorem dX8_minuteOn_60 : decode cX8_minuteOn 60 = .ok (.iload 4, 2) := by decide +kernel
theorem dX8_minuteOn_62 : decode cX8_minuteOn 62 = .ok (.iadd, 1) := by decide +kernel
theorem dX8_minuteOn_63 : decode cX8_minuteOn 63 = .ok (.iastore, 1) := by decide +kernel
theorem dX8_minuteOn_64 : decode cX8_minuteOn 64 = .ok (.iload_n 2, 1) := by decide +kernel
theorem dX8_minuteOn_65 : decode cX8_minuteOn 65 = .ok (.iload 4, 2) := by decide +kernel
theorem dX8_minuteOn_67 : decode cX8_minuteOn 67 = .ok (.isub, 1) := by decide +kernel
theorem dX8_minuteOn_68 : decode cX8_minuteOn 68 = .ok (.istore_n 2, 1) := by decide +kernel
theorem dX8_minuteOn_69 : decode cX8_minuteOn 69 = .ok (.iinc 3 1, 3) := by decide +kernel
theorem dX8_minuteOn_72 : decode cX8_minuteOn 72 = .ok (.goto (-54), 3) := by decide +kernel
theorem dX8_minuteOn_75 : decode cX8_minuteOn 75 = .ok (.aload_n 0, 1) := by decide +kernel
theorem dX8_minuteOn_76 : decode cX8_minuteOn 76 = .ok (.getfield 9, 3) := by decide +kernel
theorem dX8_minuteOn_79 : decode cX8_minuteOn 79 = .ok (.bipush 50, 2) := by decide +kernel
theorem dX8_minuteOn_81 : decode cX8_minuteOn 81 = .ok (.dup2, 1) := by decide +kernel
theorem dX8_minuteOn_82 : decode cX8_minuteOn 82 = .ok (.iaload, 1) := by decide +kernel
theorem dX8_minuteOn_83 : decode cX8_minuteOn 83 = .ok (.iconst 1, 1) := by decide +kernel
theorem dX8_minuteOn_84 : decode cX8_minuteOn 84 = .ok (.iadd, 1) := by decide +kernel
theorem dX8_minuteOn_85 : decode cX8_minuteOn 85 = .ok (.iastore, 1) := by decide +kernel
theorem dX8_minuteOn_86 : decode cX8_minuteOn 86 = .ok (.return_, 1) := by decide +kernel
theorem dX8_carried_0 : decode cX8_carried 0 = .ok (.aload_n 0, 1) := by decide +kernel
theorem dX8_carried_1 : decode cX8_carried 1 = .ok (.iload_n 1, 1) := by decide +kernel
theorem dX8_carried_2 : decode cX8_carried 2 = .ok (.invokevirtual 126, 3) := by decide +kernel
theorem dX8_carried_5 : decode cX8_carried 5 = .ok (.istore_n 3, 1) := by decide +kernel
theorem dX8_carried_6 : decode cX8_carried 6 = .ok (.iload_n 3, 1) := by decide +kernel
theorem dX8_carried_7 : decode cX8_carried 7 = .ok (.ifCond .le 14, 3) := by decide +kernel
theorem dX8_carried_10 : decode cX8_carried 10 = .ok (.aload_n 0, 1) := by decide +kernel
theorem dX8_carried_11 : decode cX8_carried 11 = .ok (.iload_n 1, 1) := by decide +kernel
theorem dX8_carried_12 : decode cX8_carried 12 = .ok (.invokevirtual 152, 3) := by decide +kernel
theorem dX8_carried_15 : decode cX8_carried 15 = .ok (.iinc 3 (-1), 3) := by decide +kernel
theorem dX8_carried_18 : decode cX8_carried 18 = .ok (.goto (-12), 3) := by decide +kernel
theorem dX8_carried_21 : decode cX8_carried 21 = .ok (.aload_n 0, 1) := by decide +kernel
theorem dX8_carried_22 : decode cX8_carried 22 = .ok (.getfield 9, 3) := by decide +kernel
theorem dX8_carried_25 : decode cX8_carried 25 = .ok (.bipush 49, 2) := by decide +kernel
theorem dX8_carried_27 : decode cX8_carried 27 = .ok (.iload_n 2, 1) := by decide +kernel
theorem dX8_carried_28 : decode cX8_carried 28 = .ok (.iastore, 1) := by decide +kernel
theorem dX8_carried_29 : decode cX8_carried 29 = .ok (.aload_n 0, 1) := by decide +kernel
theorem dX8_carried_30 : decode cX8_carried 30 = .ok (.getfield 9, 3) := by decide +kernel
theorem dX8_carried_33 : decode cX8_carried 33 = .ok (.bipush 51, 2) := by decide +kernel
theorem dX8_carried_35 : decode cX8_carried 35 = .ok (.dup2, 1) := by decide +kernel
theorem dX8_carried_36 : decode cX8_carried 36 = .ok (.iaload, 1) := by decide +kernel
theorem dX8_carried_37 : decode cX8_carried 37 = .ok (.aload_n 0, 1) := by decide +kernel
theorem dX8_carried_38 : decode cX8_carried 38 = .ok (.getfield 9, 3) := by decide +kernel
theorem dX8_carried_41 : decode cX8_carried 41 = .ok (.bipush 47, 2) := by decide +kernel
theorem dX8_carried_43 : decode cX8_carried 43 = .ok (.iaload, 1) := by decide +kernel
theorem dX8_carried_44 : decode cX8_carried 44 = .ok (.ifCond .le 16, 3) := by decide +kernel
theorem dX8_carried_47 : decode cX8_carried 47 = .ok (.iconst 1, 1) := by decide +kernel
theorem dX8_carried_48 : decode cX8_carried 48 = .ok (.aload_n 0, 1) := by decide +kernel
theorem dX8_carried_49 : decode cX8_carried 49 = .ok (.getfield 9, 3) := by decide +kernel
theorem dX8_carried_52 : decode cX8_carried 52 = .ok (.iconst 0, 1) := by decide +kernel
theorem dX8_carried_53 : decode cX8_carried 53 = .ok (.iload_n 2, 1) := by decide +kernel
theorem dX8_carried_54 : decode cX8_carried 54 = .ok (.iadd, 1) := by decide +kernel
theorem dX8_carried_55 : decode cX8_carried 55 = .ok (.iaload, 1) := by decide +kernel
theorem dX8_carried_56 : decode cX8_carried 56 = .ok (.ishl, 1) := by decide +kernel
theorem dX8_carried_57 : decode cX8_carried 57 = .ok (.goto 4, 3) := by decide +kernel
theorem dX8_carried_60 : decode cX8_carried 60 = .ok (.iconst 0, 1) := by decide +kernel
theorem dX8_carried_61 : decode cX8_carried 61 = .ok (.ior, 1) := by decide +kernel
theorem dX8_carried_62 : decode cX8_carried 62 = .ok (.iastore, 1) := by decide +kernel
theorem dX8_carried_63 : decode cX8_carried 63 = .ok (.return_, 1) := by decide +kernel
theorem dX8_isTooLate_0 : decode cX8_isTooLate 0 = .ok (.aload_n 0, 1) := by decide +kernel
theorem dX8_isTooLate_1 : decode cX8_isTooLate 1 = .ok (.getfield 9, 3) := by decide +kernel
theorem dX8_isTooLate_4 : decode cX8_isTooLate 4 = .ok (.bipush 50, 2) := by decide +kernel
theorem dX8_isTooLate_6 : decode cX8_isTooLate 6 = .ok (.iaload, 1) := by decide +kernel
theorem dX8_isTooLate_7 : decode cX8_isTooLate 7 = .ok (.iload_n 1, 1) := by decide +kernel
theorem dX8_isTooLate_8 : decode cX8_isTooLate 8 = .ok (.iadd, 1) := by decide +kernel
theorem dX8_isTooLate_9 : decode cX8_isTooLate 9 = .ok (.sipush 999, 3) := by decide +kernel
theorem dX8_isTooLate_12 : decode cX8_isTooLate 12 = .ok (.if_icmp .le 7, 3) := by decide +kernel
theorem dX8_isTooLate_15 : decode cX8_isTooLate 15 = .ok (.iconst 1, 1) := by decide +kernel
theorem dX8_isTooLate_16 : decode cX8_isTooLate 16 = .ok (.goto 4, 3) := by decide +kernel
theorem dX8_isTooLate_19 : decode cX8_isTooLate 19 = .ok (.iconst 0, 1) := by decide +kernel
theorem dX8_isTooLate_20 : decode cX8_isTooLate 20 = .ok (.ireturn, 1) := by decide +kernel
theorem dX8_carry_0 : decode cX8_carry 0 = .ok (.iload_n 1, 1) := by decide +kernel
theorem dX8_carry_1 : decode cX8_carry 1 = .ok (.invokestatic 98, 3) := by decide +kernel
theorem dX8_carry_4 : decode cX8_carry 4 = .ok (.ifCond .ne 10, 3) := by decide +kernel
theorem dX8_carry_7 : decode cX8_carry 7 = .ok (.aload_n 0, 1) := by decide +kernel
theorem dX8_carry_8 : decode cX8_carry 8 = .ok (.ldc 73, 2) := by decide +kernel
theorem dX8_carry_10 : decode cX8_carry 10 = .ok (.invokevirtual 101, 3) := by decide +kernel
theorem dX8_carry_13 : decode cX8_carry 13 = .ok (.ireturn, 1) := by decide +kernel
theorem dX8_carry_14 : decode cX8_carry 14 = .ok (.aload_n 0, 1) := by decide +kernel
theorem dX8_carry_15 : decode cX8_carry 15 = .ok (.aload_n 0, 1) := by decide +kernel
theorem dX8_carry_16 : decode cX8_carry 16 = .ok (.getfield 9, 3) := by decide +kernel
theorem dX8_carry_19 : decode cX8_carry 19 = .ok (.bipush 49, 2) := by decide +kernel
theorem dX8_carry_21 : decode cX8_carry 21 = .ok (.iaload, 1) := by decide +kernel
theorem dX8_carry_22 : decode cX8_carry 22 = .ok (.iload_n 1, 1) := by decide +kernel
theorem dX8_carry_23 : decode cX8_carry 23 = .ok (.invokevirtual 138, 3) := by decide +kernel
theorem dX8_carry_26 : decode cX8_carry 26 = .ok (.istore_n 2, 1) := by decide +kernel
theorem dX8_carry_27 : decode cX8_carry 27 = .ok (.iload_n 2, 1) := by decide +kernel
theorem dX8_carry_28 : decode cX8_carry 28 = .ok (.ifCond .ge 10, 3) := by decide +kernel
theorem dX8_carry_31 : decode cX8_carry 31 = .ok (.aload_n 0, 1) := by decide +kernel
theorem dX8_carry_32 : decode cX8_carry 32 = .ok (.ldc 144, 2) := by decide +kernel
theorem dX8_carry_34 : decode cX8_carry 34 = .ok (.invokevirtual 101, 3) := by decide +kernel
theorem dX8_carry_37 : decode cX8_carry 37 = .ok (.ireturn, 1) := by decide +kernel
theorem dX8_carry_38 : decode cX8_carry 38 = .ok (.aload_n 0, 1) := by decide +kernel
theorem dX8_carry_39 : decode cX8_carry 39 = .ok (.aload_n 0, 1) := by decide +kernel
theorem dX8_carry_40 : decode cX8_carry 40 = .ok (.iload_n 2, 1) := by decide +kernel
theorem dX8_carry_41 : decode cX8_carry 41 = .ok (.invokevirtual 126, 3) := by decide +kernel
theorem dX8_carry_44 : decode cX8_carry 44 = .ok (.invokevirtual 156, 3) := by decide +kernel
theorem dX8_carry_47 : decode cX8_carry 47 = .ok (.ifCond .eq 10, 3) := by decide +kernel
theorem dX8_carry_50 : decode cX8_carry 50 = .ok (.aload_n 0, 1) := by decide +kernel
theorem dX8_carry_51 : decode cX8_carry 51 = .ok (.ldc 159, 2) := by decide +kernel
theorem dX8_carry_53 : decode cX8_carry 53 = .ok (.invokevirtual 101, 3) := by decide +kernel
theorem dX8_carry_56 : decode cX8_carry 56 = .ok (.ireturn, 1) := by decide +kernel
theorem dX8_carry_57 : decode cX8_carry 57 = .ok (.aload_n 0, 1) := by decide +kernel
theorem dX8_carry_58 : decode cX8_carry 58 = .ok (.invokevirtual 145, 3) := by decide +kernel
theorem dX8_carry_61 : decode cX8_carry 61 = .ok (.istore_n 3, 1) := by decide +kernel
theorem dX8_carry_62 : decode cX8_carry 62 = .ok (.aload_n 0, 1) := by decide +kernel
theorem dX8_carry_63 : decode cX8_carry 63 = .ok (.iload_n 2, 1) := by decide +kernel
theorem dX8_carry_64 : decode cX8_carry 64 = .ok (.iload_n 1, 1) := by decide +kernel
theorem dX8_carry_65 : decode cX8_carry 65 = .ok (.invokevirtual 160, 3) := by decide +kernel
theorem dX8_carry_68 : decode cX8_carry 68 = .ok (.iload_n 3, 1) := by decide +kernel
theorem dX8_carry_69 : decode cX8_carry 69 = .ok (.aload_n 0, 1) := by decide +kernel
theorem dX8_carry_70 : decode cX8_carry 70 = .ok (.invokevirtual 145, 3) := by decide +kernel
theorem dX8_carry_73 : decode cX8_carry 73 = .ok (.isub, 1) := by decide +kernel
theorem dX8_carry_74 : decode cX8_carry 74 = .ok (.ireturn, 1) := by decide +kernel
theorem dX8_wait_0 : decode cX8_wait 0 = .ok (.iload_n 1, 1) := by decide +kernel
theorem dX8_wait_1 : decode cX8_wait 1 = .ok (.iconst 1, 1) := by decide +kernel
theorem dX8_wait_2 : decode cX8_wait 2 = .ok (.bipush 60, 2) := by decide +kernel
theorem dX8_wait_4 : decode cX8_wait 4 = .ok (.invokestatic 78, 3) := by decide +kernel
theorem dX8_wait_7 : decode cX8_wait 7 = .ok (.ifCond .ne 10, 3) := by decide +kernel
theorem dX8_wait_10 : decode cX8_wait 10 = .ok (.aload_n 0, 1) := by decide +kernel
theorem dX8_wait_11 : decode cX8_wait 11 = .ok (.ldc 73, 2) := by decide +kernel
theorem dX8_wait_13 : decode cX8_wait 13 = .ok (.invokevirtual 101, 3) := by decide +kernel
theorem dX8_wait_16 : decode cX8_wait 16 = .ok (.ireturn, 1) := by decide +kernel
theorem dX8_wait_17 : decode cX8_wait 17 = .ok (.aload_n 0, 1) := by decide +kernel
theorem dX8_wait_18 : decode cX8_wait 18 = .ok (.iload_n 1, 1) := by decide +kernel
theorem dX8_wait_19 : decode cX8_wait 19 = .ok (.invokevirtual 156, 3) := by decide +kernel
theorem dX8_wait_22 : decode cX8_wait 22 = .ok (.ifCond .eq 10, 3) := by decide +kernel
theorem dX8_wait_25 : decode cX8_wait 25 = .ok (.aload_n 0, 1) := by decide +kernel
theorem dX8_wait_26 : decode cX8_wait 26 = .ok (.ldc 159, 2) := by decide +kernel
theorem dX8_wait_28 : decode cX8_wait 28 = .ok (.invokevirtual 101, 3) := by decide +kernel
theorem dX8_wait_31 : decode cX8_wait 31 = .ok (.ireturn, 1) := by decide +kernel
theorem dX8_wait_32 : decode cX8_wait 32 = .ok (.aload_n 0, 1) := by decide +kernel
theorem dX8_wait_33 : decode cX8_wait 33 = .ok (.getfield 9, 3) := by decide +kernel
theorem dX8_wait_36 : decode cX8_wait 36 = .ok (.bipush 50, 2) := by decide +kernel
theorem dX8_wait_38 : decode cX8_wait 38 = .ok (.dup2, 1) := by decide +kernel
theorem dX8_wait_39 : decode cX8_wait 39 = .ok (.iaload, 1) := by decide +kernel
theorem dX8_wait_40 : decode cX8_wait 40 = .ok (.iload_n 1, 1) := by decide +kernel
theorem dX8_wait_41 : decode cX8_wait 41 = .ok (.iadd, 1) := by decide +kernel
theorem dX8_wait_42 : decode cX8_wait 42 = .ok (.iastore, 1) := by decide +kernel
theorem dX8_wait_43 : decode cX8_wait 43 = .ok (.aload_n 0, 1) := by decide +kernel
theorem dX8_wait_44 : decode cX8_wait 44 = .ok (.getfield 9, 3) := by decide +kernel
theorem dX8_wait_47 : decode cX8_wait 47 = .ok (.bipush 50, 2) := by decide +kernel
theorem dX8_wait_49 : decode cX8_wait 49 = .ok (.iaload, 1) := by decide +kernel
theorem dX8_wait_50 : decode cX8_wait 50 = .ok (.ireturn, 1) := by decide +kernel
theorem dX8_day_0 : decode cX8_day 0 = .ok (.aload_n 0, 1) := by decide +kernel
theorem dX8_day_1 : decode cX8_day 1 = .ok (.getfield 9, 3) := by decide +kernel
theorem dX8_day_4 : decode cX8_day 4 = .ok (.bipush 50, 2) := by decide +kernel
theorem dX8_day_6 : decode cX8_day 6 = .ok (.iconst 0, 1) := by decide +kernel
theorem dX8_day_7 : decode cX8_day 7 = .ok (.iastore, 1) := by decide +kernel
theorem dX8_day_8 : decode cX8_day 8 = .ok (.aload_n 0, 1) := by decide +kernel
theorem dX8_day_9 : decode cX8_day 9 = .ok (.getfield 9, 3) := by decide +kernel
theorem dX8_day_12 : decode cX8_day 12 = .ok (.bipush 49, 2) := by decide +kernel
theorem dX8_day_14 : decode cX8_day 14 = .ok (.iconst 0, 1) := by decide +kernel
theorem dX8_day_15 : decode cX8_day 15 = .ok (.iastore, 1) := by decide +kernel
theorem dX8_day_16 : decode cX8_day 16 = .ok (.aload_n 0, 1) := by decide +kernel
theorem dX8_day_17 : decode cX8_day 17 = .ok (.bipush 51, 2) := by decide +kernel
theorem dX8_day_19 : decode cX8_day 19 = .ok (.iconst 0, 1) := by decide +kernel
theorem dX8_day_20 : decode cX8_day 20 = .ok (.invokevirtual 129, 3) := by decide +kernel
theorem dX8_day_23 : decode cX8_day 23 = .ok (.invokestatic 164, 3) := by decide +kernel
theorem dX8_day_26 : decode cX8_day 26 = .ok (.ireturn, 1) := by decide +kernel
theorem dX8_costsOf_0 : decode cX8_costsOf 0 = .ok (.iconst 0, 1) := by decide +kernel
theorem dX8_costsOf_1 : decode cX8_costsOf 1 = .ok (.istore_n 3, 1) := by decide +kernel
theorem dX8_costsOf_2 : decode cX8_costsOf 2 = .ok (.iconst 0, 1) := by decide +kernel
theorem dX8_costsOf_3 : decode cX8_costsOf 3 = .ok (.istore 4, 2) := by decide +kernel
theorem dX8_costsOf_5 : decode cX8_costsOf 5 = .ok (.iload 4, 2) := by decide +kernel
theorem dX8_costsOf_7 : decode cX8_costsOf 7 = .ok (.aload_n 0, 1) := by decide +kernel
theorem dX8_costsOf_8 : decode cX8_costsOf 8 = .ok (.iload_n 1, 1) := by decide +kernel
theorem dX8_costsOf_9 : decode cX8_costsOf 9 = .ok (.invokevirtual 126, 3) := by decide +kernel
theorem dX8_costsOf_12 : decode cX8_costsOf 12 = .ok (.if_icmp .ge 24, 3) := by decide +kernel
theorem dX8_costsOf_15 : decode cX8_costsOf 15 = .ok (.iload_n 3, 1) := by decide +kernel
theorem dX8_costsOf_16 : decode cX8_costsOf 16 = .ok (.aload_n 0, 1) := by decide +kernel
theorem dX8_costsOf_17 : decode cX8_costsOf 17 = .ok (.iload_n 1, 1) := by decide +kernel
theorem dX8_costsOf_18 : decode cX8_costsOf 18 = .ok (.iload_n 2, 1) := by decide +kernel
theorem dX8_costsOf_19 : decode cX8_costsOf 19 = .ok (.iload 4, 2) := by decide +kernel
theorem dX8_costsOf_21 : decode cX8_costsOf 21 = .ok (.iadd, 1) := by decide +kernel
theorem dX8_costsOf_22 : decode cX8_costsOf 22 = .ok (.invokestatic 149, 3) := by decide +kernel
theorem dX8_costsOf_25 : decode cX8_costsOf 25 = .ok (.invokevirtual 135, 3) := by decide +kernel
theorem dX8_costsOf_28 : decode cX8_costsOf 28 = .ok (.iadd, 1) := by decide +kernel
theorem dX8_costsOf_29 : decode cX8_costsOf 29 = .ok (.istore_n 3, 1) := by decide +kernel
theorem dX8_costsOf_30 : decode cX8_costsOf 30 = .ok (.iinc 4 1, 3) := by decide +kernel
theorem dX8_costsOf_33 : decode cX8_costsOf 33 = .ok (.goto (-28), 3) := by decide +kernel
theorem dX8_costsOf_36 : decode cX8_costsOf 36 = .ok (.iload_n 3, 1) := by decide +kernel
theorem dX8_costsOf_37 : decode cX8_costsOf 37 = .ok (.aload_n 0, 1) := by decide +kernel
theorem dX8_costsOf_38 : decode cX8_costsOf 38 = .ok (.invokevirtual 145, 3) := by decide +kernel
theorem dX8_costsOf_41 : decode cX8_costsOf 41 = .ok (.invokestatic 86, 3) := by decide +kernel
theorem dX8_costsOf_44 : decode cX8_costsOf 44 = .ok (.ireturn, 1) := by decide +kernel
theorem dX8_costs_0 : decode cX8_costs 0 = .ok (.aload_n 0, 1) := by decide +kernel
theorem dX8_costs_1 : decode cX8_costs 1 = .ok (.iload_n 1, 1) := by decide +kernel
theorem dX8_costs_2 : decode cX8_costs 2 = .ok (.invokevirtual 123, 3) := by decide +kernel
theorem dX8_costs_5 : decode cX8_costs 5 = .ok (.ifCond .eq 23, 3) := by decide +kernel
theorem dX8_costs_8 : decode cX8_costs 8 = .ok (.iload_n 2, 1) := by decide +kernel
theorem dX8_costs_9 : decode cX8_costs 9 = .ok (.iconst 0, 1) := by decide +kernel
theorem dX8_costs_10 : decode cX8_costs 10 = .ok (.sipush 999, 3) := by decide +kernel
theorem dX8_costs_13 : decode cX8_costs 13 = .ok (.invokestatic 78, 3) := by decide +kernel
theorem dX8_costs_16 : decode cX8_costs 16 = .ok (.ifCond .eq 12, 3) := by decide +kernel
theorem dX8_costs_19 : decode cX8_costs 19 = .ok (.aload_n 0, 1) := by decide +kernel
theorem dX8_costs_20 : decode cX8_costs 20 = .ok (.iload_n 1, 1) := by decide +kernel
theorem dX8_costs_21 : decode cX8_costs 21 = .ok (.iload_n 2, 1) := by decide +kernel
theorem dX8_costs_22 : decode cX8_costs 22 = .ok (.invokevirtual 167, 3) := by decide +kernel
theorem dX8_costs_25 : decode cX8_costs 25 = .ok (.goto 9, 3) := by decide +kernel
theorem dX8_costs_28 : decode cX8_costs 28 = .ok (.aload_n 0, 1) := by decide +kernel
theorem dX8_costs_29 : decode cX8_costs 29 = .ok (.ldc 73, 2) := by decide +kernel
theorem dX8_costs_31 : decode cX8_costs 31 = .ok (.invokevirtual 101, 3) := by decide +kernel
theorem dX8_costs_34 : decode cX8_costs 34 = .ok (.ireturn, 1) := by decide +kernel
theorem dX8_keepAhead_0 : decode cX8_keepAhead 0 = .ok (.iconst 0, 1) := by decide +kernel
theorem dX8_keepAhead_1 : decode cX8_keepAhead 1 = .ok (.istore_n 2, 1) := by decide +kernel
theorem dX8_keepAhead_2 : decode cX8_keepAhead 2 = .ok (.iload_n 2, 1) := by decide +kernel
theorem dX8_keepAhead_3 : decode cX8_keepAhead 3 = .ok (.bipush 8, 2) := by decide +kernel
theorem dX8_keepAhead_5 : decode cX8_keepAhead 5 = .ok (.if_icmp .ge 29, 3) := by decide +kernel
theorem dX8_keepAhead_8 : decode cX8_keepAhead 8 = .ok (.aload_n 0, 1) := by decide +kernel
theorem dX8_keepAhead_9 : decode cX8_keepAhead 9 = .ok (.getfield 26, 3) := by decide +kernel
theorem dX8_keepAhead_12 : decode cX8_keepAhead 12 = .ok (.bipush 8, 2) := by decide +kernel
theorem dX8_keepAhead_14 : decode cX8_keepAhead 14 = .ok (.iload_n 1, 1) := by decide +kernel
theorem dX8_keepAhead_15 : decode cX8_keepAhead 15 = .ok (.imul, 1) := by decide +kernel
theorem dX8_keepAhead_16 : decode cX8_keepAhead 16 = .ok (.iload_n 2, 1) := by decide +kernel
theorem dX8_keepAhead_17 : decode cX8_keepAhead 17 = .ok (.iadd, 1) := by decide +kernel
theorem dX8_keepAhead_18 : decode cX8_keepAhead 18 = .ok (.aload_n 0, 1) := by decide +kernel
theorem dX8_keepAhead_19 : decode cX8_keepAhead 19 = .ok (.getfield 9, 3) := by decide +kernel
theorem dX8_keepAhead_22 : decode cX8_keepAhead 22 = .ok (.bipush 45, 2) := by decide +kernel
theorem dX8_keepAhead_24 : decode cX8_keepAhead 24 = .ok (.iload_n 2, 1) := by decide +kernel
theorem dX8_keepAhead_25 : decode cX8_keepAhead 25 = .ok (.iadd, 1) := by decide +kernel
theorem dX8_keepAhead_26 : decode cX8_keepAhead 26 = .ok (.iaload, 1) := by decide +kernel
theorem dX8_keepAhead_27 : decode cX8_keepAhead 27 = .ok (.iastore, 1) := by decide +kernel
theorem dX8_keepAhead_28 : decode cX8_keepAhead 28 = .ok (.iinc 2 1, 3) := by decide +kernel
theorem dX8_keepAhead_31 : decode cX8_keepAhead 31 = .ok (.goto (-29), 3) := by decide +kernel
theorem dX8_keepAhead_34 : decode cX8_keepAhead 34 = .ok (.return_, 1) := by decide +kernel
theorem dX8_backTo_0 : decode cX8_backTo 0 = .ok (.iconst 0, 1) := by decide +kernel
theorem dX8_backTo_1 : decode cX8_backTo 1 = .ok (.istore_n 2, 1) := by decide +kernel
theorem dX8_backTo_2 : decode cX8_backTo 2 = .ok (.iload_n 2, 1) := by decide +kernel
theorem dX8_backTo_3 : decode cX8_backTo 3 = .ok (.bipush 8, 2) := by decide +kernel
theorem dX8_backTo_5 : decode cX8_backTo 5 = .ok (.if_icmp .ge 29, 3) := by decide +kernel
theorem dX8_backTo_8 : decode cX8_backTo 8 = .ok (.aload_n 0, 1) := by decide +kernel
theorem dX8_backTo_9 : decode cX8_backTo 9 = .ok (.getfield 9, 3) := by decide +kernel
theorem dX8_backTo_12 : decode cX8_backTo 12 = .ok (.bipush 45, 2) := by decide +kernel
theorem dX8_backTo_14 : decode cX8_backTo 14 = .ok (.iload_n 2, 1) := by decide +kernel
theorem dX8_backTo_15 : decode cX8_backTo 15 = .ok (.iadd, 1) := by decide +kernel
theorem dX8_backTo_16 : decode cX8_backTo 16 = .ok (.aload_n 0, 1) := by decide +kernel
theorem dX8_backTo_17 : decode cX8_backTo 17 = .ok (.getfield 26, 3) := by decide +kernel
theorem dX8_backTo_20 : decode cX8_backTo 20 = .ok (.bipush 8, 2) := by decide +kernel
theorem dX8_backTo_22 : decode cX8_backTo 22 = .ok (.iload_n 1, 1) := by decide +kernel
theorem dX8_backTo_23 : decode cX8_backTo 23 = .ok (.imul, 1) := by decide +kernel
theorem dX8_backTo_24 : decode cX8_backTo 24 = .ok (.iload_n 2, 1) := by decide +kernel
theorem dX8_backTo_25 : decode cX8_backTo 25 = .ok (.iadd, 1) := by decide +kernel
theorem dX8_backTo_26 : decode cX8_backTo 26 = .ok (.iaload, 1) := by decide +kernel
theorem dX8_backTo_27 : decode cX8_backTo 27 = .ok (.iastore, 1) := by decide +kernel
theorem dX8_backTo_28 : decode cX8_backTo 28 = .ok (.iinc 2 1, 3) := by decide +kernel
theorem dX8_backTo_31 : decode cX8_backTo 31 = .ok (.goto (-29), 3) := by decide +kernel
theorem dX8_backTo_34 : decode cX8_backTo 34 = .ok (.return_, 1) := by decide +kernel
theorem dX8_isWhole_0 : decode cX8_isWhole 0 = .ok (.aload_n 0, 1) := by decide +kernel
theorem dX8_isWhole_1 : decode cX8_isWhole 1 = .ok (.invokevirtual 145, 3) := by decide +kernel
theorem dX8_isWhole_4 : decode cX8_isWhole 4 = .ok (.istore_n 3, 1) := by decide +kernel
theorem dX8_isWhole_5 : decode cX8_isWhole 5 = .ok (.aload_n 0, 1) := by decide +kernel
theorem dX8_isWhole_6 : decode cX8_isWhole 6 = .ok (.dup, 1) := by decide +kernel
theorem dX8_isWhole_7 : decode cX8_isWhole 7 = .ok (.getfield 170, 3) := by decide +kernel
theorem dX8_isWhole_10 : decode cX8_isWhole 10 = .ok (.iconst 1, 1) := by decide +kernel
theorem dX8_isWhole_11 : decode cX8_isWhole 11 = .ok (.iadd, 1) := by decide +kernel
theorem dX8_isWhole_12 : decode cX8_isWhole 12 = .ok (.putfield 170, 3) := by decide +kernel
theorem dX8_isWhole_15 : decode cX8_isWhole 15 = .ok (.aload_n 0, 1) := by decide +kernel
theorem dX8_isWhole_16 : decode cX8_isWhole 16 = .ok (.aload_n 0, 1) := by decide +kernel
theorem dX8_isWhole_17 : decode cX8_isWhole 17 = .ok (.getfield 173, 3) := by decide +kernel
theorem dX8_isWhole_20 : decode cX8_isWhole 20 = .ok (.iload_n 2, 1) := by decide +kernel
theorem dX8_isWhole_21 : decode cX8_isWhole 21 = .ok (.invokestatic 86, 3) := by decide +kernel
theorem dX8_isWhole_24 : decode cX8_isWhole 24 = .ok (.putfield 173, 3) := by decide +kernel
theorem dX8_isWhole_27 : decode cX8_isWhole 27 = .ok (.iload_n 3, 1) := by decide +kernel
theorem dX8_isWhole_28 : decode cX8_isWhole 28 = .ok (.aload_n 0, 1) := by decide +kernel
theorem dX8_isWhole_29 : decode cX8_isWhole 29 = .ok (.getfield 176, 3) := by decide +kernel
theorem dX8_isWhole_32 : decode cX8_isWhole 32 = .ok (.if_icmp .le 42, 3) := by decide +kernel
theorem dX8_isWhole_35 : decode cX8_isWhole 35 = .ok (.aload_n 0, 1) := by decide +kernel
theorem dX8_isWhole_36 : decode cX8_isWhole 36 = .ok (.iload_n 3, 1) := by decide +kernel
theorem dX8_isWhole_37 : decode cX8_isWhole 37 = .ok (.putfield 176, 3) := by decide +kernel
theorem dX8_isWhole_40 : decode cX8_isWhole 40 = .ok (.aload_n 0, 1) := by decide +kernel
theorem dX8_isWhole_41 : decode cX8_isWhole 41 = .ok (.iload_n 1, 1) := by decide +kernel
theorem dX8_isWhole_42 : decode cX8_isWhole 42 = .ok (.putfield 179, 3) := by decide +kernel
theorem dX8_isWhole_45 : decode cX8_isWhole 45 = .ok (.iconst 0, 1) := by decide +kernel
theorem dX8_isWhole_46 : decode cX8_isWhole 46 = .ok (.istore 4, 2) := by decide +kernel
theorem dX8_isWhole_48 : decode cX8_isWhole 48 = .ok (.iload 4, 2) := by decide +kernel
theorem dX8_isWhole_50 : decode cX8_isWhole 50 = .ok (.iload_n 1, 1) := by decide +kernel
theorem dX8_isWhole_51 : decode cX8_isWhole 51 = .ok (.if_icmp .ge 23, 3) := by decide +kernel
theorem dX8_isWhole_54 : decode cX8_isWhole 54 = .ok (.aload_n 0, 1) := by decide +kernel
theorem dX8_isWhole_55 : decode cX8_isWhole 55 = .ok (.getfield 32, 3) := by decide +kernel
theorem dX8_isWhole_58 : decode cX8_isWhole 58 = .ok (.iload 4, 2) := by decide +kernel
theorem dX8_isWhole_60 : decode cX8_isWhole 60 = .ok (.aload_n 0, 1) := by decide +kernel
theorem dX8_isWhole_61 : decode cX8_isWhole 61 = .ok (.getfield 29, 3) := by decide +kernel
theorem dX8_isWhole_64 : decode cX8_isWhole 64 = .ok (.iload 4, 2) := by decide +kernel
theorem dX8_isWhole_66 : decode cX8_isWhole 66 = .ok (.iaload, 1) := by decide +kernel
theorem dX8_isWhole_67 : decode cX8_isWhole 67 = .ok (.iastore, 1) := by decide +kernel
theorem dX8_isWhole_68 : decode cX8_isWhole 68 = .ok (.iinc 4 1, 3) := by decide +kernel
theorem dX8_isWhole_71 : decode cX8_isWhole 71 = .ok (.goto (-23), 3) := by decide +kernel
theorem dX8_isWhole_74 : decode cX8_isWhole 74 = .ok (.return_, 1) := by decide +kernel
theorem dX8_none_0 : decode cX8_none 0 = .ok (.aload_n 0, 1) := by decide +kernel
theorem dX8_none_1 : decode cX8_none 1 = .ok (.iconst 0, 1) := by decide +kernel
theorem dX8_none_2 : decode cX8_none 2 = .ok (.putfield 170, 3) := by decide +kernel
theorem dX8_none_5 : decode cX8_none 5 = .ok (.aload_n 0, 1) := by decide +kernel
theorem dX8_none_6 : decode cX8_none 6 = .ok (.iconst (-1), 1) := by decide +kernel
theorem dX8_none_7 : decode cX8_none 7 = .ok (.putfield 176, 3) := by decide +kernel
theorem dX8_none_10 : decode cX8_none 10 = .ok (.aload_n 0, 1) := by decide +kernel
theorem dX8_none_11 : decode cX8_none 11 = .ok (.iconst 0, 1) := by decide +kernel
theorem dX8_none_12 : decode cX8_none 12 = .ok (.putfield 179, 3) := by decide +kernel
theorem dX8_none_15 : decode cX8_none 15 = .ok (.aload_n 0, 1) := by decide +kernel
theorem dX8_none_16 : decode cX8_none 16 = .ok (.sipush 999, 3) := by decide +kernel
theorem dX8_none_19 : decode cX8_none 19 = .ok (.putfield 173, 3) := by decide +kernel
theorem dX8_none_22 : decode cX8_none 22 = .ok (.return_, 1) := by decide +kernel
theorem dX8_waysOn_0 : decode cX8_waysOn 0 = .ok (.aload_n 0, 1) := by decide +kernel
theorem dX8_waysOn_1 : decode cX8_waysOn 1 = .ok (.getfield 9, 3) := by decide +kernel
theorem dX8_waysOn_4 : decode cX8_waysOn 4 = .ok (.bipush 49, 2) := by decide +kernel
theorem dX8_waysOn_6 : decode cX8_waysOn 6 = .ok (.iaload, 1) := by decide +kernel
theorem dX8_waysOn_7 : decode cX8_waysOn 7 = .ok (.iload_n 1, 1) := by decide +kernel
theorem dX8_waysOn_8 : decode cX8_waysOn 8 = .ok (.if_icmp .ne 19, 3) := by decide +kernel
theorem dX8_waysOn_11 : decode cX8_waysOn 11 = .ok (.aload_n 0, 1) := by decide +kernel
theorem dX8_waysOn_12 : decode cX8_waysOn 12 = .ok (.iload_n 3, 1) := by decide +kernel
theorem dX8_waysOn_13 : decode cX8_waysOn 13 = .ok (.aload_n 0, 1) := by decide +kernel
theorem dX8_waysOn_14 : decode cX8_waysOn 14 = .ok (.getfield 9, 3) := by decide +kernel
theorem dX8_waysOn_17 : decode cX8_waysOn 17 = .ok (.bipush 50, 2) := by decide +kernel
theorem dX8_waysOn_19 : decode cX8_waysOn 19 = .ok (.iaload, 1) := by decide +kernel
theorem dX8_waysOn_20 : decode cX8_waysOn 20 = .ok (.iload 4, 2) := by decide +kernel
theorem dX8_waysOn_22 : decode cX8_waysOn 22 = .ok (.isub, 1) := by decide +kernel
theorem dX8_waysOn_23 : decode cX8_waysOn 23 = .ok (.invokevirtual 182, 3) := by decide +kernel
theorem dX8_waysOn_26 : decode cX8_waysOn 26 = .ok (.return_, 1) := by decide +kernel
theorem dX8_waysOn_27 : decode cX8_waysOn 27 = .ok (.iconst 0, 1) := by decide +kernel
theorem dX8_waysOn_28 : decode cX8_waysOn 28 = .ok (.istore 5, 2) := by decide +kernel
theorem dX8_waysOn_30 : decode cX8_waysOn 30 = .ok (.iload 5, 2) := by decide +kernel
theorem dX8_waysOn_32 : decode cX8_waysOn 32 = .ok (.bipush 8, 2) := by decide +kernel
theorem dX8_waysOn_34 : decode cX8_waysOn 34 = .ok (.if_icmp .ge 84, 3) := by decide +kernel
theorem dX8_waysOn_37 : decode cX8_waysOn 37 = .ok (.iload_n 2, 1) := by decide +kernel
theorem dX8_waysOn_38 : decode cX8_waysOn 38 = .ok (.iload 5, 2) := by decide +kernel
theorem dX8_waysOn_40 : decode cX8_waysOn 40 = .ok (.invokestatic 185, 3) := by decide +kernel
theorem dX8_waysOn_43 : decode cX8_waysOn 43 = .ok (.ifCond .eq 7, 3) := by decide +kernel
theorem dX8_waysOn_46 : decode cX8_waysOn 46 = .ok (.iconst (-1), 1) := by decide +kernel
theorem dX8_waysOn_47 : decode cX8_waysOn 47 = .ok (.goto 16, 3) := by decide +kernel
theorem dX8_waysOn_50 : decode cX8_waysOn 50 = .ok (.aload_n 0, 1) := by decide +kernel
theorem dX8_waysOn_51 : decode cX8_waysOn 51 = .ok (.aload_n 0, 1) := by decide +kernel
theorem dX8_waysOn_52 : decode cX8_waysOn 52 = .ok (.getfield 9, 3) := by decide +kernel
theorem dX8_waysOn_55 : decode cX8_waysOn 55 = .ok (.bipush 49, 2) := by decide +kernel
theorem dX8_waysOn_57 : decode cX8_waysOn 57 = .ok (.iaload, 1) := by decide +kernel
theorem dX8_waysOn_58 : decode cX8_waysOn 58 = .ok (.iload 5, 2) := by decide +kernel
theorem dX8_waysOn_60 : decode cX8_waysOn 60 = .ok (.invokevirtual 138, 3) := by decide +kernel
theorem dX8_waysOn_63 : decode cX8_waysOn 63 = .ok (.istore 6, 2) := by decide +kernel
theorem dX8_waysOn_65 : decode cX8_waysOn 65 = .ok (.iload 6, 2) := by decide +kernel
theorem dX8_waysOn_67 : decode cX8_waysOn 67 = .ok (.ifCond .lt 45, 3) := by decide +kernel
theorem dX8_waysOn_70 : decode cX8_waysOn 70 = .ok (.aload_n 0, 1) := by decide +kernel
theorem dX8_waysOn_71 : decode cX8_waysOn 71 = .ok (.iload_n 3, 1) := by decide +kernel
theorem dX8_waysOn_72 : decode cX8_waysOn 72 = .ok (.invokevirtual 188, 3) := by decide +kernel
theorem dX8_waysOn_75 : decode cX8_waysOn 75 = .ok (.aload_n 0, 1) := by decide +kernel
theorem dX8_waysOn_76 : decode cX8_waysOn 76 = .ok (.iload 6, 2) := by decide +kernel
theorem dX8_waysOn_78 : decode cX8_waysOn 78 = .ok (.iload 5, 2) := by decide +kernel
theorem dX8_waysOn_80 : decode cX8_waysOn 80 = .ok (.invokevirtual 160, 3) := by decide +kernel
theorem dX8_waysOn_83 : decode cX8_waysOn 83 = .ok (.aload_n 0, 1) := by decide +kernel
theorem dX8_waysOn_84 : decode cX8_waysOn 84 = .ok (.getfield 29, 3) := by decide +kernel
theorem dX8_waysOn_87 : decode cX8_waysOn 87 = .ok (.iload_n 3, 1) := by decide +kernel
theorem dX8_waysOn_88 : decode cX8_waysOn 88 = .ok (.iload 5, 2) := by decide +kernel
theorem dX8_waysOn_90 : decode cX8_waysOn 90 = .ok (.iastore, 1) := by decide +kernel
theorem dX8_waysOn_91 : decode cX8_waysOn 91 = .ok (.aload_n 0, 1) := by decide +kernel
theorem dX8_waysOn_92 : decode cX8_waysOn 92 = .ok (.iload_n 1, 1) := by decide +kernel
theorem dX8_waysOn_93 : decode cX8_waysOn 93 = .ok (.iload_n 2, 1) := by decide +kernel
theorem dX8_waysOn_94 : decode cX8_waysOn 94 = .ok (.iconst 1, 1) := by decide +kernel
theorem dX8_waysOn_95 : decode cX8_waysOn 95 = .ok (.iload 5, 2) := by decide +kernel
theorem dX8_waysOn_97 : decode cX8_waysOn 97 = .ok (.ishl, 1) := by decide +kernel
theorem dX8_waysOn_98 : decode cX8_waysOn 98 = .ok (.ior, 1) := by decide +kernel
theorem dX8_waysOn_99 : decode cX8_waysOn 99 = .ok (.iload_n 3, 1) := by decide +kernel
theorem dX8_waysOn_100 : decode cX8_waysOn 100 = .ok (.iconst 1, 1) := by decide +kernel
theorem dX8_waysOn_101 : decode cX8_waysOn 101 = .ok (.iadd, 1) := by decide +kernel
theorem dX8_waysOn_102 : decode cX8_waysOn 102 = .ok (.iload 4, 2) := by decide +kernel
theorem dX8_waysOn_104 : decode cX8_waysOn 104 = .ok (.invokevirtual 191, 3) := by decide +kernel
theorem dX8_waysOn_107 : decode cX8_waysOn 107 = .ok (.aload_n 0, 1) := by decide +kernel
theorem dX8_waysOn_108 : decode cX8_waysOn 108 = .ok (.iload_n 3, 1) := by decide +kernel
theorem dX8_waysOn_109 : decode cX8_waysOn 109 = .ok (.invokevirtual 195, 3) := by decide +kernel
theorem dX8_waysOn_112 : decode cX8_waysOn 112 = .ok (.iinc 5 1, 3) := by decide +kernel
theorem dX8_waysOn_115 : decode cX8_waysOn 115 = .ok (.goto (-85), 3) := by decide +kernel
theorem dX8_waysOn_118 : decode cX8_waysOn 118 = .ok (.return_, 1) := by decide +kernel
theorem dX8_findWays_0 : decode cX8_findWays 0 = .ok (.aload_n 0, 1) := by decide +kernel
theorem dX8_findWays_1 : decode cX8_findWays 1 = .ok (.invokevirtual 198, 3) := by decide +kernel
theorem dX8_findWays_4 : decode cX8_findWays 4 = .ok (.aload_n 0, 1) := by decide +kernel
theorem dX8_findWays_5 : decode cX8_findWays 5 = .ok (.iload_n 1, 1) := by decide +kernel
theorem dX8_findWays_6 : decode cX8_findWays 6 = .ok (.iconst 1, 1) := by decide +kernel
theorem dX8_findWays_7 : decode cX8_findWays 7 = .ok (.aload_n 0, 1) := by decide +kernel
theorem dX8_findWays_8 : decode cX8_findWays 8 = .ok (.getfield 9, 3) := by decide +kernel
theorem dX8_findWays_11 : decode cX8_findWays 11 = .ok (.bipush 49, 2) := by decide +kernel
theorem dX8_findWays_13 : decode cX8_findWays 13 = .ok (.iaload, 1) := by decide +kernel
theorem dX8_findWays_14 : decode cX8_findWays 14 = .ok (.ishl, 1) := by decide +kernel
theorem dX8_findWays_15 : decode cX8_findWays 15 = .ok (.iconst 0, 1) := by decide +kernel
theorem dX8_findWays_16 : decode cX8_findWays 16 = .ok (.aload_n 0, 1) := by decide +kernel
theorem dX8_findWays_17 : decode cX8_findWays 17 = .ok (.getfield 9, 3) := by decide +kernel
theorem dX8_findWays_20 : decode cX8_findWays 20 = .ok (.bipush 50, 2) := by decide +kernel
theorem dX8_findWays_22 : decode cX8_findWays 22 = .ok (.iaload, 1) := by decide +kernel
theorem dX8_findWays_23 : decode cX8_findWays 23 = .ok (.invokevirtual 191, 3) := by decide +kernel
theorem dX8_findWays_26 : decode cX8_findWays 26 = .ok (.return_, 1) := by decide +kernel
theorem dX8_isLate_0 : decode cX8_isLate 0 = .ok (.aload_n 0, 1) := by decide +kernel
theorem dX8_isLate_1 : decode cX8_isLate 1 = .ok (.getfield 9, 3) := by decide +kernel
theorem dX8_isLate_4 : decode cX8_isLate 4 = .ok (.bipush 50, 2) := by decide +kernel
theorem dX8_isLate_6 : decode cX8_isLate 6 = .ok (.iaload, 1) := by decide +kernel
theorem dX8_isLate_7 : decode cX8_isLate 7 = .ok (.sipush 700, 3) := by decide +kernel
theorem dX8_isLate_10 : decode cX8_isLate 10 = .ok (.if_icmp .le 7, 3) := by decide +kernel
theorem dX8_isLate_13 : decode cX8_isLate 13 = .ok (.iconst 1, 1) := by decide +kernel
theorem dX8_isLate_14 : decode cX8_isLate 14 = .ok (.goto 4, 3) := by decide +kernel
theorem dX8_isLate_17 : decode cX8_isLate 17 = .ok (.iconst 0, 1) := by decide +kernel
theorem dX8_isLate_18 : decode cX8_isLate 18 = .ok (.ireturn, 1) := by decide +kernel
theorem dX8_refusesWays_0 : decode cX8_refusesWays 0 = .ok (.iload_n 1, 1) := by decide +kernel
theorem dX8_refusesWays_1 : decode cX8_refusesWays 1 = .ok (.invokestatic 98, 3) := by decide +kernel
theorem dX8_refusesWays_4 : decode cX8_refusesWays 4 = .ok (.ifCond .ne 6, 3) := by decide +kernel
theorem dX8_refusesWays_7 : decode cX8_refusesWays 7 = .ok (.ldc 73, 2) := by decide +kernel
theorem dX8_refusesWays_9 : decode cX8_refusesWays 9 = .ok (.ireturn, 1) := by decide +kernel
theorem dX8_refusesWays_10 : decode cX8_refusesWays 10 = .ok (.aload_n 0, 1) := by decide +kernel
theorem dX8_refusesWays_11 : decode cX8_refusesWays 11 = .ok (.invokevirtual 201, 3) := by decide +kernel
theorem dX8_refusesWays_14 : decode cX8_refusesWays 14 = .ok (.ifCond .eq 6, 3) := by decide +kernel
theorem dX8_refusesWays_17 : decode cX8_refusesWays 17 = .ok (.ldc 159, 2) := by decide +kernel
theorem dX8_refusesWays_19 : decode cX8_refusesWays 19 = .ok (.ireturn, 1) := by decide +kernel
theorem dX8_refusesWays_20 : decode cX8_refusesWays 20 = .ok (.aload_n 0, 1) := by decide +kernel
theorem dX8_refusesWays_21 : decode cX8_refusesWays 21 = .ok (.iload_n 1, 1) := by decide +kernel
theorem dX8_refusesWays_22 : decode cX8_refusesWays 22 = .ok (.invokevirtual 205, 3) := by decide +kernel
theorem dX8_refusesWays_25 : decode cX8_refusesWays 25 = .ok (.aload_n 0, 1) := by decide +kernel
theorem dX8_refusesWays_26 : decode cX8_refusesWays 26 = .ok (.getfield 170, 3) := by decide +kernel
theorem dX8_refusesWays_29 : decode cX8_refusesWays 29 = .ok (.ifCond .ne 8, 3) := by decide +kernel
theorem dX8_refusesWays_32 : decode cX8_refusesWays 32 = .ok (.ldc 144, 2) := by decide +kernel
theorem dX8_refusesWays_34 : decode cX8_refusesWays 34 = .ok (.goto 4, 3) := by decide +kernel
theorem dX8_refusesWays_37 : decode cX8_refusesWays 37 = .ok (.iconst 0, 1) := by decide +kernel
theorem dX8_refusesWays_38 : decode cX8_refusesWays 38 = .ok (.ireturn, 1) := by decide +kernel
theorem dX8_most_0 : decode cX8_most 0 = .ok (.aload_n 0, 1) := by decide +kernel
theorem dX8_most_1 : decode cX8_most 1 = .ok (.iload_n 1, 1) := by decide +kernel
theorem dX8_most_2 : decode cX8_most 2 = .ok (.invokevirtual 208, 3) := by decide +kernel
theorem dX8_most_5 : decode cX8_most 5 = .ok (.istore_n 2, 1) := by decide +kernel
theorem dX8_most_6 : decode cX8_most 6 = .ok (.iload_n 2, 1) := by decide +kernel
theorem dX8_most_7 : decode cX8_most 7 = .ok (.ifCond .eq 11, 3) := by decide +kernel
theorem dX8_most_10 : decode cX8_most 10 = .ok (.aload_n 0, 1) := by decide +kernel
theorem dX8_most_11 : decode cX8_most 11 = .ok (.iload_n 2, 1) := by decide +kernel
theorem dX8_most_12 : decode cX8_most 12 = .ok (.invokevirtual 101, 3) := by decide +kernel
theorem dX8_most_15 : decode cX8_most 15 = .ok (.goto 7, 3) := by decide +kernel
theorem dX8_most_18 : decode cX8_most 18 = .ok (.aload_n 0, 1) := by decide +kernel
theorem dX8_most_19 : decode cX8_most 19 = .ok (.getfield 176, 3) := by decide +kernel
theorem dX8_most_22 : decode cX8_most 22 = .ok (.ireturn, 1) := by decide +kernel
theorem dX8_isPlace_0 : decode cX8_isPlace 0 = .ok (.iload_n 0, 1) := by decide +kernel
theorem dX8_isPlace_1 : decode cX8_isPlace 1 = .ok (.iconst 0, 1) := by decide +kernel
theorem dX8_isPlace_2 : decode cX8_isPlace 2 = .ok (.bipush 6, 2) := by decide +kernel
theorem dX8_isPlace_4 : decode cX8_isPlace 4 = .ok (.invokestatic 78, 3) := by decide +kernel
theorem dX8_isPlace_7 : decode cX8_isPlace 7 = .ok (.ireturn, 1) := by decide +kernel
theorem dX8_way_0 : decode cX8_way 0 = .ok (.iload_n 2, 1) := by decide +kernel
theorem dX8_way_1 : decode cX8_way 1 = .ok (.invokestatic 211, 3) := by decide +kernel
theorem dX8_way_4 : decode cX8_way 4 = .ok (.ifCond .eq 11, 3) := by decide +kernel
theorem dX8_way_7 : decode cX8_way 7 = .ok (.aload_n 0, 1) := by decide +kernel
theorem dX8_way_8 : decode cX8_way 8 = .ok (.iload_n 1, 1) := by decide +kernel
theorem dX8_way_9 : decode cX8_way 9 = .ok (.invokevirtual 208, 3) := by decide +kernel
theorem dX8_way_12 : decode cX8_way 12 = .ok (.goto 5, 3) := by decide +kernel
theorem dX8_way_15 : decode cX8_way 15 = .ok (.ldc 73, 2) := by decide +kernel
theorem dX8_way_17 : decode cX8_way 17 = .ok (.istore_n 3, 1) := by decide +kernel
theorem dX8_way_18 : decode cX8_way 18 = .ok (.iload_n 3, 1) := by decide +kernel
theorem dX8_way_19 : decode cX8_way 19 = .ok (.ifCond .eq 9, 3) := by decide +kernel
theorem dX8_way_22 : decode cX8_way 22 = .ok (.aload_n 0, 1) := by decide +kernel
theorem dX8_way_23 : decode cX8_way 23 = .ok (.iload_n 3, 1) := by decide +kernel
theorem dX8_way_24 : decode cX8_way 24 = .ok (.invokevirtual 101, 3) := by decide +kernel
theorem dX8_way_27 : decode cX8_way 27 = .ok (.ireturn, 1) := by decide +kernel
theorem dX8_way_28 : decode cX8_way 28 = .ok (.iload_n 2, 1) := by decide +kernel
theorem dX8_way_29 : decode cX8_way 29 = .ok (.aload_n 0, 1) := by decide +kernel
theorem dX8_way_30 : decode cX8_way 30 = .ok (.getfield 179, 3) := by decide +kernel
theorem dX8_way_33 : decode cX8_way 33 = .ok (.if_icmp .ge 12, 3) := by decide +kernel
theorem dX8_way_36 : decode cX8_way 36 = .ok (.aload_n 0, 1) := by decide +kernel
theorem dX8_way_37 : decode cX8_way 37 = .ok (.getfield 32, 3) := by decide +kernel
theorem dX8_way_40 : decode cX8_way 40 = .ok (.iload_n 2, 1) := by decide +kernel
theorem dX8_way_41 : decode cX8_way 41 = .ok (.iaload, 1) := by decide +kernel
theorem dX8_way_42 : decode cX8_way 42 = .ok (.goto 9, 3) := by decide +kernel
theorem dX8_way_45 : decode cX8_way 45 = .ok (.aload_n 0, 1) := by decide +kernel
theorem dX8_way_46 : decode cX8_way 46 = .ok (.ldc 144, 2) := by decide +kernel
theorem dX8_way_48 : decode cX8_way 48 = .ok (.invokevirtual 101, 3) := by decide +kernel
theorem dX8_way_51 : decode cX8_way 51 = .ok (.ireturn, 1) := by decide +kernel
theorem dX8_soonest_0 : decode cX8_soonest 0 = .ok (.aload_n 0, 1) := by decide +kernel
theorem dX8_soonest_1 : decode cX8_soonest 1 = .ok (.iload_n 1, 1) := by decide +kernel
theorem dX8_soonest_2 : decode cX8_soonest 2 = .ok (.invokevirtual 208, 3) := by decide +kernel
theorem dX8_soonest_5 : decode cX8_soonest 5 = .ok (.istore_n 2, 1) := by decide +kernel
theorem dX8_soonest_6 : decode cX8_soonest 6 = .ok (.iload_n 2, 1) := by decide +kernel
theorem dX8_soonest_7 : decode cX8_soonest 7 = .ok (.ifCond .eq 11, 3) := by decide +kernel
theorem dX8_soonest_10 : decode cX8_soonest 10 = .ok (.aload_n 0, 1) := by decide +kernel
theorem dX8_soonest_11 : decode cX8_soonest 11 = .ok (.iload_n 2, 1) := by decide +kernel
theorem dX8_soonest_12 : decode cX8_soonest 12 = .ok (.invokevirtual 101, 3) := by decide +kernel
theorem dX8_soonest_15 : decode cX8_soonest 15 = .ok (.goto 7, 3) := by decide +kernel
theorem dX8_soonest_18 : decode cX8_soonest 18 = .ok (.aload_n 0, 1) := by decide +kernel
theorem dX8_soonest_19 : decode cX8_soonest 19 = .ok (.getfield 173, 3) := by decide +kernel
theorem dX8_soonest_22 : decode cX8_soonest 22 = .ok (.ireturn, 1) := by decide +kernel
theorem dX8_ways_0 : decode cX8_ways 0 = .ok (.iload_n 1, 1) := by decide +kernel
theorem dX8_ways_1 : decode cX8_ways 1 = .ok (.invokestatic 98, 3) := by decide +kernel
theorem dX8_ways_4 : decode cX8_ways 4 = .ok (.ifCond .ne 10, 3) := by decide +kernel
theorem dX8_ways_7 : decode cX8_ways 7 = .ok (.aload_n 0, 1) := by decide +kernel
theorem dX8_ways_8 : decode cX8_ways 8 = .ok (.ldc 73, 2) := by decide +kernel
theorem dX8_ways_10 : decode cX8_ways 10 = .ok (.invokevirtual 101, 3) := by decide +kernel
theorem dX8_ways_13 : decode cX8_ways 13 = .ok (.ireturn, 1) := by decide +kernel
theorem dX8_ways_14 : decode cX8_ways 14 = .ok (.aload_n 0, 1) := by decide +kernel
theorem dX8_ways_15 : decode cX8_ways 15 = .ok (.iload_n 1, 1) := by decide +kernel
theorem dX8_ways_16 : decode cX8_ways 16 = .ok (.invokevirtual 205, 3) := by decide +kernel
theorem dX8_ways_19 : decode cX8_ways 19 = .ok (.aload_n 0, 1) := by decide +kernel
theorem dX8_ways_20 : decode cX8_ways 20 = .ok (.getfield 170, 3) := by decide +kernel
theorem dX8_ways_23 : decode cX8_ways 23 = .ok (.ireturn, 1) := by decide +kernel
theorem dX8_due_0 : decode cX8_due 0 = .ok (.iconst 0, 1) := by decide +kernel
theorem dX8_due_1 : decode cX8_due 1 = .ok (.istore_n 1, 1) := by decide +kernel
theorem dX8_due_2 : decode cX8_due 2 = .ok (.iconst 0, 1) := by decide +kernel
theorem dX8_due_3 : decode cX8_due 3 = .ok (.istore_n 2, 1) := by decide +kernel
theorem dX8_due_4 : decode cX8_due 4 = .ok (.iload_n 2, 1) := by decide +kernel
theorem dX8_due_5 : decode cX8_due 5 = .ok (.aload_n 0, 1) := by decide +kernel
theorem dX8_due_6 : decode cX8_due 6 = .ok (.getfield 9, 3) := by decide +kernel
theorem dX8_due_9 : decode cX8_due 9 = .ok (.bipush 8, 2) := by decide +kernel
theorem dX8_due_11 : decode cX8_due 11 = .ok (.iaload, 1) := by decide +kernel
theorem dX8_due_12 : decode cX8_due 12 = .ok (.if_icmp .ge 43, 3) := by decide +kernel
theorem dX8_due_15 : decode cX8_due 15 = .ok (.iload_n 1, 1) := by decide +kernel
theorem dX8_due_16 : decode cX8_due 16 = .ok (.iconst 1, 1) := by decide +kernel
theorem dX8_due_17 : decode cX8_due 17 = .ok (.aload_n 0, 1) := by decide +kernel
theorem dX8_due_18 : decode cX8_due 18 = .ok (.getfield 9, 3) := by decide +kernel
theorem dX8_due_21 : decode cX8_due 21 = .ok (.iconst 0, 1) := by decide +kernel
theorem dX8_due_22 : decode cX8_due 22 = .ok (.aload_n 0, 1) := by decide +kernel
theorem dX8_due_23 : decode cX8_due 23 = .ok (.iload_n 2, 1) := by decide +kernel
theorem dX8_due_24 : decode cX8_due 24 = .ok (.iconst 1, 1) := by decide +kernel
theorem dX8_due_25 : decode cX8_due 25 = .ok (.invokevirtual 113, 3) := by decide +kernel
theorem dX8_due_28 : decode cX8_due 28 = .ok (.iadd, 1) := by decide +kernel
theorem dX8_due_29 : decode cX8_due 29 = .ok (.iaload, 1) := by decide +kernel
theorem dX8_due_30 : decode cX8_due 30 = .ok (.ishl, 1) := by decide +kernel
theorem dX8_due_31 : decode cX8_due 31 = .ok (.iconst 1, 1) := by decide +kernel
theorem dX8_due_32 : decode cX8_due 32 = .ok (.aload_n 0, 1) := by decide +kernel
theorem dX8_due_33 : decode cX8_due 33 = .ok (.getfield 9, 3) := by decide +kernel
theorem dX8_due_36 : decode cX8_due 36 = .ok (.iconst 0, 1) := by decide +kernel
theorem dX8_due_37 : decode cX8_due 37 = .ok (.aload_n 0, 1) := by decide +kernel
theorem dX8_due_38 : decode cX8_due 38 = .ok (.iload_n 2, 1) := by decide +kernel
theorem dX8_due_39 : decode cX8_due 39 = .ok (.iconst 2, 1) := by decide +kernel
theorem dX8_due_40 : decode cX8_due 40 = .ok (.invokevirtual 113, 3) := by decide +kernel
theorem dX8_due_43 : decode cX8_due 43 = .ok (.iadd, 1) := by decide +kernel
theorem dX8_due_44 : decode cX8_due 44 = .ok (.iaload, 1) := by decide +kernel
theorem dX8_due_45 : decode cX8_due 45 = .ok (.ishl, 1) := by decide +kernel
theorem dX8_due_46 : decode cX8_due 46 = .ok (.ior, 1) := by decide +kernel
theorem dX8_due_47 : decode cX8_due 47 = .ok (.ior, 1) := by decide +kernel
theorem dX8_due_48 : decode cX8_due 48 = .ok (.istore_n 1, 1) := by decide +kernel
theorem dX8_due_49 : decode cX8_due 49 = .ok (.iinc 2 1, 3) := by decide +kernel
theorem dX8_due_52 : decode cX8_due 52 = .ok (.goto (-48), 3) := by decide +kernel
theorem dX8_due_55 : decode cX8_due 55 = .ok (.iload_n 1, 1) := by decide +kernel
theorem dX8_due_56 : decode cX8_due 56 = .ok (.ireturn, 1) := by decide +kernel
theorem dX8_roundsOn_0 : decode cX8_roundsOn 0 = .ok (.iload_n 3, 1) := by decide +kernel
theorem dX8_roundsOn_1 : decode cX8_roundsOn 1 = .ok (.ifCond .ne 7, 3) := by decide +kernel
theorem dX8_roundsOn_4 : decode cX8_roundsOn 4 = .ok (.iconst (-1), 1) := by decide +kernel
theorem dX8_roundsOn_5 : decode cX8_roundsOn 5 = .ok (.goto 15, 3) := by decide +kernel
theorem dX8_roundsOn_8 : decode cX8_roundsOn 8 = .ok (.aload_n 0, 1) := by decide +kernel
theorem dX8_roundsOn_9 : decode cX8_roundsOn 9 = .ok (.aload_n 0, 1) := by decide +kernel
theorem dX8_roundsOn_10 : decode cX8_roundsOn 10 = .ok (.getfield 9, 3) := by decide +kernel
theorem dX8_roundsOn_13 : decode cX8_roundsOn 13 = .ok (.bipush 49, 2) := by decide +kernel
theorem dX8_roundsOn_15 : decode cX8_roundsOn 15 = .ok (.iaload, 1) := by decide +kernel
theorem dX8_roundsOn_16 : decode cX8_roundsOn 16 = .ok (.iload_n 1, 1) := by decide +kernel
theorem dX8_roundsOn_17 : decode cX8_roundsOn 17 = .ok (.invokevirtual 138, 3) := by decide +kernel
theorem dX8_roundsOn_20 : decode cX8_roundsOn 20 = .ok (.istore 5, 2) := by decide +kernel
theorem dX8_roundsOn_22 : decode cX8_roundsOn 22 = .ok (.iload 5, 2) := by decide +kernel
theorem dX8_roundsOn_24 : decode cX8_roundsOn 24 = .ok (.ifCond .lt 41, 3) := by decide +kernel
theorem dX8_roundsOn_27 : decode cX8_roundsOn 27 = .ok (.aload_n 0, 1) := by decide +kernel
theorem dX8_roundsOn_28 : decode cX8_roundsOn 28 = .ok (.iload_n 3, 1) := by decide +kernel
theorem dX8_roundsOn_29 : decode cX8_roundsOn 29 = .ok (.invokevirtual 188, 3) := by decide +kernel
theorem dX8_roundsOn_32 : decode cX8_roundsOn 32 = .ok (.aload_n 0, 1) := by decide +kernel
theorem dX8_roundsOn_33 : decode cX8_roundsOn 33 = .ok (.iload 5, 2) := by decide +kernel
theorem dX8_roundsOn_35 : decode cX8_roundsOn 35 = .ok (.iload_n 1, 1) := by decide +kernel
theorem dX8_roundsOn_36 : decode cX8_roundsOn 36 = .ok (.invokevirtual 160, 3) := by decide +kernel
theorem dX8_roundsOn_39 : decode cX8_roundsOn 39 = .ok (.iload 4, 2) := by decide +kernel
theorem dX8_roundsOn_41 : decode cX8_roundsOn 41 = .ok (.aload_n 0, 1) := by decide +kernel
theorem dX8_roundsOn_42 : decode cX8_roundsOn 42 = .ok (.getfield 9, 3) := by decide +kernel
theorem dX8_roundsOn_45 : decode cX8_roundsOn 45 = .ok (.bipush 51, 2) := by decide +kernel
theorem dX8_roundsOn_47 : decode cX8_roundsOn 47 = .ok (.iaload, 1) := by decide +kernel
theorem dX8_roundsOn_48 : decode cX8_roundsOn 48 = .ok (.iconst (-1), 1) := by decide +kernel
theorem dX8_roundsOn_49 : decode cX8_roundsOn 49 = .ok (.ixor, 1) := by decide +kernel
theorem dX8_roundsOn_50 : decode cX8_roundsOn 50 = .ok (.iand, 1) := by decide +kernel
theorem dX8_roundsOn_51 : decode cX8_roundsOn 51 = .ok (.ifCond .ne 9, 3) := by decide +kernel
theorem dX8_roundsOn_54 : decode cX8_roundsOn 54 = .ok (.aload_n 0, 1) := by decide +kernel
theorem dX8_roundsOn_55 : decode cX8_roundsOn 55 = .ok (.iload_n 3, 1) := by decide +kernel
theorem dX8_roundsOn_56 : decode cX8_roundsOn 56 = .ok (.iconst 0, 1) := by decide +kernel
theorem dX8_roundsOn_57 : decode cX8_roundsOn 57 = .ok (.invokevirtual 182, 3) := by decide +kernel
theorem dX8_roundsOn_60 : decode cX8_roundsOn 60 = .ok (.aload_n 0, 1) := by decide +kernel
theorem dX8_roundsOn_61 : decode cX8_roundsOn 61 = .ok (.iload_n 3, 1) := by decide +kernel
theorem dX8_roundsOn_62 : decode cX8_roundsOn 62 = .ok (.invokevirtual 195, 3) := by decide +kernel
theorem dX8_roundsOn_65 : decode cX8_roundsOn 65 = .ok (.iconst 0, 1) := by decide +kernel
theorem dX8_roundsOn_66 : decode cX8_roundsOn 66 = .ok (.istore 6, 2) := by decide +kernel
theorem dX8_roundsOn_68 : decode cX8_roundsOn 68 = .ok (.iload 6, 2) := by decide +kernel
theorem dX8_roundsOn_70 : decode cX8_roundsOn 70 = .ok (.bipush 8, 2) := by decide +kernel
theorem dX8_roundsOn_72 : decode cX8_roundsOn 72 = .ok (.if_icmp .ge 84, 3) := by decide +kernel
theorem dX8_roundsOn_75 : decode cX8_roundsOn 75 = .ok (.iload_n 2, 1) := by decide +kernel
theorem dX8_roundsOn_76 : decode cX8_roundsOn 76 = .ok (.iload 6, 2) := by decide +kernel
theorem dX8_roundsOn_78 : decode cX8_roundsOn 78 = .ok (.invokestatic 185, 3) := by decide +kernel
theorem dX8_roundsOn_81 : decode cX8_roundsOn 81 = .ok (.ifCond .eq 7, 3) := by decide +kernel
theorem dX8_roundsOn_84 : decode cX8_roundsOn 84 = .ok (.iconst (-1), 1) := by decide +kernel
theorem dX8_roundsOn_85 : decode cX8_roundsOn 85 = .ok (.goto 16, 3) := by decide +kernel
theorem dX8_roundsOn_88 : decode cX8_roundsOn 88 = .ok (.aload_n 0, 1) := by decide +kernel
theorem dX8_roundsOn_89 : decode cX8_roundsOn 89 = .ok (.aload_n 0, 1) := by decide +kernel
theorem dX8_roundsOn_90 : decode cX8_roundsOn 90 = .ok (.getfield 9, 3) := by decide +kernel
theorem dX8_roundsOn_93 : decode cX8_roundsOn 93 = .ok (.bipush 49, 2) := by decide +kernel
theorem dX8_roundsOn_95 : decode cX8_roundsOn 95 = .ok (.iaload, 1) := by decide +kernel
theorem dX8_roundsOn_96 : decode cX8_roundsOn 96 = .ok (.iload 6, 2) := by decide +kernel
theorem dX8_roundsOn_98 : decode cX8_roundsOn 98 = .ok (.invokevirtual 138, 3) := by decide +kernel
theorem dX8_roundsOn_101 : decode cX8_roundsOn 101 = .ok (.istore 7, 2) := by decide +kernel
theorem dX8_roundsOn_103 : decode cX8_roundsOn 103 = .ok (.iload 7, 2) := by decide +kernel
theorem dX8_roundsOn_105 : decode cX8_roundsOn 105 = .ok (.ifCond .lt 45, 3) := by decide +kernel
theorem dX8_roundsOn_108 : decode cX8_roundsOn 108 = .ok (.aload_n 0, 1) := by decide +kernel
theorem dX8_roundsOn_109 : decode cX8_roundsOn 109 = .ok (.iload_n 3, 1) := by decide +kernel
theorem dX8_roundsOn_110 : decode cX8_roundsOn 110 = .ok (.invokevirtual 188, 3) := by decide +kernel
theorem dX8_roundsOn_113 : decode cX8_roundsOn 113 = .ok (.aload_n 0, 1) := by decide +kernel
theorem dX8_roundsOn_114 : decode cX8_roundsOn 114 = .ok (.iload 7, 2) := by decide +kernel
theorem dX8_roundsOn_116 : decode cX8_roundsOn 116 = .ok (.iload 6, 2) := by decide +kernel
theorem dX8_roundsOn_118 : decode cX8_roundsOn 118 = .ok (.invokevirtual 160, 3) := by decide +kernel
theorem dX8_roundsOn_121 : decode cX8_roundsOn 121 = .ok (.aload_n 0, 1) := by decide +kernel
theorem dX8_roundsOn_122 : decode cX8_roundsOn 122 = .ok (.getfield 29, 3) := by decide +kernel
theorem dX8_roundsOn_125 : decode cX8_roundsOn 125 = .ok (.iload_n 3, 1) := by decide +kernel
theorem dX8_roundsOn_126 : decode cX8_roundsOn 126 = .ok (.iload 6, 2) := by decide +kernel
theorem dX8_roundsOn_128 : decode cX8_roundsOn 128 = .ok (.iastore, 1) := by decide +kernel
theorem dX8_roundsOn_129 : decode cX8_roundsOn 129 = .ok (.aload_n 0, 1) := by decide +kernel
theorem dX8_roundsOn_130 : decode cX8_roundsOn 130 = .ok (.iload_n 1, 1) := by decide +kernel
theorem dX8_roundsOn_131 : decode cX8_roundsOn 131 = .ok (.iload_n 2, 1) := by decide +kernel
theorem dX8_roundsOn_132 : decode cX8_roundsOn 132 = .ok (.iconst 1, 1) := by decide +kernel
theorem dX8_roundsOn_133 : decode cX8_roundsOn 133 = .ok (.iload 6, 2) := by decide +kernel
theorem dX8_roundsOn_135 : decode cX8_roundsOn 135 = .ok (.ishl, 1) := by decide +kernel
theorem dX8_roundsOn_136 : decode cX8_roundsOn 136 = .ok (.ior, 1) := by decide +kernel
theorem dX8_roundsOn_137 : decode cX8_roundsOn 137 = .ok (.iload_n 3, 1) := by decide +kernel
theorem dX8_roundsOn_138 : decode cX8_roundsOn 138 = .ok (.iconst 1, 1) := by decide +kernel
theorem dX8_roundsOn_139 : decode cX8_roundsOn 139 = .ok (.iadd, 1) := by decide +kernel
theorem dX8_roundsOn_140 : decode cX8_roundsOn 140 = .ok (.iload 4, 2) := by decide +kernel
theorem dX8_roundsOn_142 : decode cX8_roundsOn 142 = .ok (.invokevirtual 214, 3) := by decide +kernel
theorem dX8_roundsOn_145 : decode cX8_roundsOn 145 = .ok (.aload_n 0, 1) := by decide +kernel
theorem dX8_roundsOn_146 : decode cX8_roundsOn 146 = .ok (.iload_n 3, 1) := by decide +kernel
theorem dX8_roundsOn_147 : decode cX8_roundsOn 147 = .ok (.invokevirtual 195, 3) := by decide +kernel
theorem dX8_roundsOn_150 : decode cX8_roundsOn 150 = .ok (.iinc 6 1, 3) := by decide +kernel
theorem dX8_roundsOn_153 : decode cX8_roundsOn 153 = .ok (.goto (-85), 3) := by decide +kernel
theorem dX8_roundsOn_156 : decode cX8_roundsOn 156 = .ok (.return_, 1) := by decide +kernel
theorem dX8_bestRound_0 : decode cX8_bestRound 0 = .ok (.aload_n 0, 1) := by decide +kernel
theorem dX8_bestRound_1 : decode cX8_bestRound 1 = .ok (.invokevirtual 198, 3) := by decide +kernel
theorem dX8_bestRound_4 : decode cX8_bestRound 4 = .ok (.aload_n 0, 1) := by decide +kernel
theorem dX8_bestRound_5 : decode cX8_bestRound 5 = .ok (.aload_n 0, 1) := by decide +kernel
theorem dX8_bestRound_6 : decode cX8_bestRound 6 = .ok (.getfield 9, 3) := by decide +kernel
theorem dX8_bestRound_9 : decode cX8_bestRound 9 = .ok (.bipush 49, 2) := by decide +kernel
theorem dX8_bestRound_11 : decode cX8_bestRound 11 = .ok (.iaload, 1) := by decide +kernel
theorem dX8_bestRound_12 : decode cX8_bestRound 12 = .ok (.iconst 1, 1) := by decide +kernel
theorem dX8_bestRound_13 : decode cX8_bestRound 13 = .ok (.aload_n 0, 1) := by decide +kernel
theorem dX8_bestRound_14 : decode cX8_bestRound 14 = .ok (.getfield 9, 3) := by decide +kernel
theorem dX8_bestRound_17 : decode cX8_bestRound 17 = .ok (.bipush 49, 2) := by decide +kernel
theorem dX8_bestRound_19 : decode cX8_bestRound 19 = .ok (.iaload, 1) := by decide +kernel
theorem dX8_bestRound_20 : decode cX8_bestRound 20 = .ok (.ishl, 1) := by decide +kernel
theorem dX8_bestRound_21 : decode cX8_bestRound 21 = .ok (.iconst 0, 1) := by decide +kernel
theorem dX8_bestRound_22 : decode cX8_bestRound 22 = .ok (.aload_n 0, 1) := by decide +kernel
theorem dX8_bestRound_23 : decode cX8_bestRound 23 = .ok (.invokevirtual 217, 3) := by decide +kernel
theorem dX8_bestRound_26 : decode cX8_bestRound 26 = .ok (.invokevirtual 214, 3) := by decide +kernel
theorem dX8_bestRound_29 : decode cX8_bestRound 29 = .ok (.aload_n 0, 1) := by decide +kernel
theorem dX8_bestRound_30 : decode cX8_bestRound 30 = .ok (.getfield 176, 3) := by decide +kernel
theorem dX8_bestRound_33 : decode cX8_bestRound 33 = .ok (.ireturn, 1) := by decide +kernel
theorem dX8_round_0 : decode cX8_round 0 = .ok (.aload_n 0, 1) := by decide +kernel
theorem dX8_round_1 : decode cX8_round 1 = .ok (.invokevirtual 201, 3) := by decide +kernel
theorem dX8_round_4 : decode cX8_round 4 = .ok (.ifCond .eq 10, 3) := by decide +kernel
theorem dX8_round_7 : decode cX8_round 7 = .ok (.aload_n 0, 1) := by decide +kernel
theorem dX8_round_8 : decode cX8_round 8 = .ok (.ldc 159, 2) := by decide +kernel
theorem dX8_round_10 : decode cX8_round 10 = .ok (.invokevirtual 101, 3) := by decide +kernel
theorem dX8_round_13 : decode cX8_round 13 = .ok (.ireturn, 1) := by decide +kernel
theorem dX8_round_14 : decode cX8_round 14 = .ok (.aload_n 0, 1) := by decide +kernel
theorem dX8_round_15 : decode cX8_round 15 = .ok (.invokevirtual 220, 3) := by decide +kernel
theorem dX8_round_18 : decode cX8_round 18 = .ok (.istore_n 1, 1) := by decide +kernel
theorem dX8_round_19 : decode cX8_round 19 = .ok (.iload_n 1, 1) := by decide +kernel
theorem dX8_round_20 : decode cX8_round 20 = .ok (.ifCond .ge 12, 3) := by decide +kernel
theorem dX8_round_23 : decode cX8_round 23 = .ok (.aload_n 0, 1) := by decide +kernel
theorem dX8_round_24 : decode cX8_round 24 = .ok (.ldc 144, 2) := by decide +kernel
theorem dX8_round_26 : decode cX8_round 26 = .ok (.invokevirtual 101, 3) := by decide +kernel
theorem dX8_round_29 : decode cX8_round 29 = .ok (.goto 4, 3) := by decide +kernel
theorem dX8_round_32 : decode cX8_round 32 = .ok (.iload_n 1, 1) := by decide +kernel
theorem dX8_round_33 : decode cX8_round 33 = .ok (.ireturn, 1) := by decide +kernel
theorem dX8_ith_0 : decode cX8_ith 0 = .ok (.iload_n 1, 1) := by decide +kernel
theorem dX8_ith_1 : decode cX8_ith 1 = .ok (.invokestatic 211, 3) := by decide +kernel
theorem dX8_ith_4 : decode cX8_ith 4 = .ok (.ifCond .ne 10, 3) := by decide +kernel
theorem dX8_ith_7 : decode cX8_ith 7 = .ok (.aload_n 0, 1) := by decide +kernel
theorem dX8_ith_8 : decode cX8_ith 8 = .ok (.ldc 73, 2) := by decide +kernel
theorem dX8_ith_10 : decode cX8_ith 10 = .ok (.invokevirtual 101, 3) := by decide +kernel
theorem dX8_ith_13 : decode cX8_ith 13 = .ok (.ireturn, 1) := by decide +kernel
theorem dX8_ith_14 : decode cX8_ith 14 = .ok (.aload_n 0, 1) := by decide +kernel
theorem dX8_ith_15 : decode cX8_ith 15 = .ok (.invokevirtual 201, 3) := by decide +kernel
theorem dX8_ith_18 : decode cX8_ith 18 = .ok (.ifCond .eq 10, 3) := by decide +kernel
theorem dX8_ith_21 : decode cX8_ith 21 = .ok (.aload_n 0, 1) := by decide +kernel
theorem dX8_ith_22 : decode cX8_ith 22 = .ok (.ldc 159, 2) := by decide +kernel
theorem dX8_ith_24 : decode cX8_ith 24 = .ok (.invokevirtual 101, 3) := by decide +kernel
theorem dX8_ith_27 : decode cX8_ith 27 = .ok (.ireturn, 1) := by decide +kernel
theorem dX8_ith_28 : decode cX8_ith 28 = .ok (.aload_n 0, 1) := by decide +kernel
theorem dX8_ith_29 : decode cX8_ith 29 = .ok (.invokevirtual 220, 3) := by decide +kernel
theorem dX8_ith_32 : decode cX8_ith 32 = .ok (.ifCond .lt 11, 3) := by decide +kernel
theorem dX8_ith_35 : decode cX8_ith 35 = .ok (.iload_n 1, 1) := by decide +kernel
theorem dX8_ith_36 : decode cX8_ith 36 = .ok (.aload_n 0, 1) := by decide +kernel
theorem dX8_ith_37 : decode cX8_ith 37 = .ok (.getfield 179, 3) := by decide +kernel
theorem dX8_ith_40 : decode cX8_ith 40 = .ok (.if_icmp .lt 12, 3) := by decide +kernel
theorem dX8_ith_43 : decode cX8_ith 43 = .ok (.aload_n 0, 1) := by decide +kernel
theorem dX8_ith_44 : decode cX8_ith 44 = .ok (.ldc 144, 2) := by decide +kernel
theorem dX8_ith_46 : decode cX8_ith 46 = .ok (.invokevirtual 101, 3) := by decide +kernel
theorem dX8_ith_49 : decode cX8_ith 49 = .ok (.goto 9, 3) := by decide +kernel
theorem dX8_ith_52 : decode cX8_ith 52 = .ok (.aload_n 0, 1) := by decide +kernel
theorem dX8_ith_53 : decode cX8_ith 53 = .ok (.getfield 32, 3) := by decide +kernel
theorem dX8_ith_56 : decode cX8_ith 56 = .ok (.iload_n 1, 1) := by decide +kernel
theorem dX8_ith_57 : decode cX8_ith 57 = .ok (.iaload, 1) := by decide +kernel
theorem dX8_ith_58 : decode cX8_ith 58 = .ok (.ireturn, 1) := by decide +kernel
theorem dX8_rounds_0 : decode cX8_rounds 0 = .ok (.aload_n 0, 1) := by decide +kernel
theorem dX8_rounds_1 : decode cX8_rounds 1 = .ok (.invokevirtual 201, 3) := by decide +kernel
theorem dX8_rounds_4 : decode cX8_rounds 4 = .ok (.ifCond .eq 10, 3) := by decide +kernel
theorem dX8_rounds_7 : decode cX8_rounds 7 = .ok (.aload_n 0, 1) := by decide +kernel
theorem dX8_rounds_8 : decode cX8_rounds 8 = .ok (.ldc 159, 2) := by decide +kernel
theorem dX8_rounds_10 : decode cX8_rounds 10 = .ok (.invokevirtual 101, 3) := by decide +kernel
theorem dX8_rounds_13 : decode cX8_rounds 13 = .ok (.ireturn, 1) := by decide +kernel
theorem dX8_rounds_14 : decode cX8_rounds 14 = .ok (.aload_n 0, 1) := by decide +kernel
theorem dX8_rounds_15 : decode cX8_rounds 15 = .ok (.invokevirtual 220, 3) := by decide +kernel
theorem dX8_rounds_18 : decode cX8_rounds 18 = .ok (.ifCond .ge 7, 3) := by decide +kernel
theorem dX8_rounds_21 : decode cX8_rounds 21 = .ok (.iconst 0, 1) := by decide +kernel
theorem dX8_rounds_22 : decode cX8_rounds 22 = .ok (.goto 7, 3) := by decide +kernel
theorem dX8_rounds_25 : decode cX8_rounds 25 = .ok (.aload_n 0, 1) := by decide +kernel
theorem dX8_rounds_26 : decode cX8_rounds 26 = .ok (.getfield 170, 3) := by decide +kernel
theorem dX8_rounds_29 : decode cX8_rounds 29 = .ok (.ireturn, 1) := by decide +kernel
theorem dX8_tried_0 : decode cX8_tried 0 = .ok (.iload_n 2, 1) := by decide +kernel
theorem dX8_tried_1 : decode cX8_tried 1 = .ok (.aload_n 0, 1) := by decide +kernel
theorem dX8_tried_2 : decode cX8_tried 2 = .ok (.getfield 223, 3) := by decide +kernel
theorem dX8_tried_5 : decode cX8_tried 5 = .ok (.if_icmp .le 13, 3) := by decide +kernel
theorem dX8_tried_8 : decode cX8_tried 8 = .ok (.aload_n 0, 1) := by decide +kernel
theorem dX8_tried_9 : decode cX8_tried 9 = .ok (.iload_n 1, 1) := by decide +kernel
theorem dX8_tried_10 : decode cX8_tried 10 = .ok (.putfield 226, 3) := by decide +kernel
theorem dX8_tried_13 : decode cX8_tried 13 = .ok (.aload_n 0, 1) := by decide +kernel
theorem dX8_tried_14 : decode cX8_tried 14 = .ok (.iload_n 2, 1) := by decide +kernel
theorem dX8_tried_15 : decode cX8_tried 15 = .ok (.putfield 223, 3) := by decide +kernel
theorem dX8_tried_18 : decode cX8_tried 18 = .ok (.return_, 1) := by decide +kernel
theorem dX8_nothingTried_0 : decode cX8_nothingTried 0 = .ok (.aload_n 0, 1) := by decide +kernel
theorem dX8_nothingTried_1 : decode cX8_nothingTried 1 = .ok (.iconst (-1), 1) := by decide +kernel
theorem dX8_nothingTried_2 : decode cX8_nothingTried 2 = .ok (.putfield 226, 3) := by decide +kernel
theorem dX8_nothingTried_5 : decode cX8_nothingTried 5 = .ok (.aload_n 0, 1) := by decide +kernel
theorem dX8_nothingTried_6 : decode cX8_nothingTried 6 = .ok (.iconst (-1), 1) := by decide +kernel
theorem dX8_nothingTried_7 : decode cX8_nothingTried 7 = .ok (.putfield 223, 3) := by decide +kernel
theorem dX8_nothingTried_10 : decode cX8_nothingTried 10 = .ok (.return_, 1) := by decide +kernel
theorem dX8_bestTried_0 : decode cX8_bestTried 0 = .ok (.aload_n 0, 1) := by decide +kernel
theorem dX8_bestTried_1 : decode cX8_bestTried 1 = .ok (.getfield 226, 3) := by decide +kernel
theorem dX8_bestTried_4 : decode cX8_bestTried 4 = .ok (.ifCond .ge 12, 3) := by decide +kernel
theorem dX8_bestTried_7 : decode cX8_bestTried 7 = .ok (.aload_n 0, 1) := by decide +kernel
theorem dX8_bestTried_8 : decode cX8_bestTried 8 = .ok (.ldc 144, 2) := by decide +kernel
theorem dX8_bestTried_10 : decode cX8_bestTried 10 = .ok (.invokevirtual 101, 3) := by decide +kernel
theorem dX8_bestTried_13 : decode cX8_bestTried 13 = .ok (.goto 7, 3) := by decide +kernel
theorem dX8_bestTried_16 : decode cX8_bestTried 16 = .ok (.aload_n 0, 1) := by decide +kernel
theorem dX8_bestTried_17 : decode cX8_bestTried 17 = .ok (.getfield 226, 3) := by decide +kernel
theorem dX8_bestTried_20 : decode cX8_bestTried 20 = .ok (.ireturn, 1) := by decide +kernel
theorem dX8_start_0 : decode cX8_start 0 = .ok (.aload_n 0, 1) := by decide +kernel
theorem dX8_start_1 : decode cX8_start 1 = .ok (.invokevirtual 201, 3) := by decide +kernel
theorem dX8_start_4 : decode cX8_start 4 = .ok (.ifCond .eq 10, 3) := by decide +kernel
theorem dX8_start_7 : decode cX8_start 7 = .ok (.aload_n 0, 1) := by decide +kernel
theorem dX8_start_8 : decode cX8_start 8 = .ok (.ldc 159, 2) := by decide +kernel
theorem dX8_start_10 : decode cX8_start 10 = .ok (.invokevirtual 101, 3) := by decide +kernel
theorem dX8_start_13 : decode cX8_start 13 = .ok (.ireturn, 1) := by decide +kernel
theorem dX8_start_14 : decode cX8_start 14 = .ok (.aload_n 0, 1) := by decide +kernel
theorem dX8_start_15 : decode cX8_start 15 = .ok (.invokevirtual 229, 3) := by decide +kernel
theorem dX8_start_18 : decode cX8_start 18 = .ok (.aload_n 0, 1) := by decide +kernel
theorem dX8_start_19 : decode cX8_start 19 = .ok (.getfield 9, 3) := by decide +kernel
theorem dX8_start_22 : decode cX8_start 22 = .ok (.bipush 50, 2) := by decide +kernel
theorem dX8_start_24 : decode cX8_start 24 = .ok (.iaload, 1) := by decide +kernel
theorem dX8_start_25 : decode cX8_start 25 = .ok (.istore_n 1, 1) := by decide +kernel
theorem dX8_start_26 : decode cX8_start 26 = .ok (.iconst 0, 1) := by decide +kernel
theorem dX8_start_27 : decode cX8_start 27 = .ok (.istore_n 2, 1) := by decide +kernel
theorem dX8_start_28 : decode cX8_start 28 = .ok (.iload_n 2, 1) := by decide +kernel
theorem dX8_start_29 : decode cX8_start 29 = .ok (.bipush 60, 2) := by decide +kernel
theorem dX8_start_31 : decode cX8_start 31 = .ok (.if_icmp .gt 28, 3) := by decide +kernel
theorem dX8_start_34 : decode cX8_start 34 = .ok (.aload_n 0, 1) := by decide +kernel
theorem dX8_start_35 : decode cX8_start 35 = .ok (.getfield 9, 3) := by decide +kernel
theorem dX8_start_38 : decode cX8_start 38 = .ok (.bipush 50, 2) := by decide +kernel
theorem dX8_start_40 : decode cX8_start 40 = .ok (.iload_n 1, 1) := by decide +kernel
theorem dX8_start_41 : decode cX8_start 41 = .ok (.iload_n 2, 1) := by decide +kernel
theorem dX8_start_42 : decode cX8_start 42 = .ok (.iadd, 1) := by decide +kernel
theorem dX8_start_43 : decode cX8_start 43 = .ok (.iastore, 1) := by decide +kernel
theorem dX8_start_44 : decode cX8_start 44 = .ok (.aload_n 0, 1) := by decide +kernel
theorem dX8_start_45 : decode cX8_start 45 = .ok (.iload_n 2, 1) := by decide +kernel
theorem dX8_start_46 : decode cX8_start 46 = .ok (.aload_n 0, 1) := by decide +kernel
theorem dX8_start_47 : decode cX8_start 47 = .ok (.invokevirtual 220, 3) := by decide +kernel
theorem dX8_start_50 : decode cX8_start 50 = .ok (.invokevirtual 232, 3) := by decide +kernel
theorem dX8_start_53 : decode cX8_start 53 = .ok (.iinc 2 1, 3) := by decide +kernel
theorem dX8_start_56 : decode cX8_start 56 = .ok (.goto (-28), 3) := by decide +kernel
theorem dX8_start_59 : decode cX8_start 59 = .ok (.aload_n 0, 1) := by decide +kernel
theorem dX8_start_60 : decode cX8_start 60 = .ok (.getfield 9, 3) := by decide +kernel
theorem dX8_start_63 : decode cX8_start 63 = .ok (.bipush 50, 2) := by decide +kernel
theorem dX8_start_65 : decode cX8_start 65 = .ok (.iload_n 1, 1) := by decide +kernel
theorem dX8_start_66 : decode cX8_start 66 = .ok (.iastore, 1) := by decide +kernel
theorem dX8_start_67 : decode cX8_start 67 = .ok (.aload_n 0, 1) := by decide +kernel
theorem dX8_start_68 : decode cX8_start 68 = .ok (.invokevirtual 235, 3) := by decide +kernel
theorem dX8_start_71 : decode cX8_start 71 = .ok (.ireturn, 1) := by decide +kernel
theorem dX8_better_0 : decode cX8_better 0 = .ok (.aload_n 0, 1) := by decide +kernel
theorem dX8_better_1 : decode cX8_better 1 = .ok (.invokevirtual 201, 3) := by decide +kernel
theorem dX8_better_4 : decode cX8_better 4 = .ok (.ifCond .eq 10, 3) := by decide +kernel
theorem dX8_better_7 : decode cX8_better 7 = .ok (.aload_n 0, 1) := by decide +kernel
theorem dX8_better_8 : decode cX8_better 8 = .ok (.ldc 159, 2) := by decide +kernel
theorem dX8_better_10 : decode cX8_better 10 = .ok (.invokevirtual 101, 3) := by decide +kernel
theorem dX8_better_13 : decode cX8_better 13 = .ok (.ireturn, 1) := by decide +kernel
theorem dX8_better_14 : decode cX8_better 14 = .ok (.aload_n 0, 1) := by decide +kernel
theorem dX8_better_15 : decode cX8_better 15 = .ok (.invokevirtual 229, 3) := by decide +kernel
theorem dX8_better_18 : decode cX8_better 18 = .ok (.aload_n 0, 1) := by decide +kernel
theorem dX8_better_19 : decode cX8_better 19 = .ok (.getfield 9, 3) := by decide +kernel
theorem dX8_better_22 : decode cX8_better 22 = .ok (.bipush 44, 2) := by decide +kernel
theorem dX8_better_24 : decode cX8_better 24 = .ok (.iaload, 1) := by decide +kernel
theorem dX8_better_25 : decode cX8_better 25 = .ok (.istore_n 1, 1) := by decide +kernel
theorem dX8_better_26 : decode cX8_better 26 = .ok (.iconst 0, 1) := by decide +kernel
theorem dX8_better_27 : decode cX8_better 27 = .ok (.istore_n 2, 1) := by decide +kernel
theorem dX8_better_28 : decode cX8_better 28 = .ok (.iload_n 2, 1) := by decide +kernel
theorem dX8_better_29 : decode cX8_better 29 = .ok (.iconst 1, 1) := by decide +kernel
theorem dX8_better_30 : decode cX8_better 30 = .ok (.if_icmp .gt 26, 3) := by decide +kernel
theorem dX8_better_33 : decode cX8_better 33 = .ok (.aload_n 0, 1) := by decide +kernel
theorem dX8_better_34 : decode cX8_better 34 = .ok (.getfield 9, 3) := by decide +kernel
theorem dX8_better_37 : decode cX8_better 37 = .ok (.bipush 44, 2) := by decide +kernel
theorem dX8_better_39 : decode cX8_better 39 = .ok (.iload_n 2, 1) := by decide +kernel
theorem dX8_better_40 : decode cX8_better 40 = .ok (.iastore, 1) := by decide +kernel
theorem dX8_better_41 : decode cX8_better 41 = .ok (.aload_n 0, 1) := by decide +kernel
theorem dX8_better_42 : decode cX8_better 42 = .ok (.iload_n 2, 1) := by decide +kernel
theorem dX8_better_43 : decode cX8_better 43 = .ok (.aload_n 0, 1) := by decide +kernel
theorem dX8_better_44 : decode cX8_better 44 = .ok (.invokevirtual 220, 3) := by decide +kernel
theorem dX8_better_47 : decode cX8_better 47 = .ok (.invokevirtual 232, 3) := by decide +kernel
theorem dX8_better_50 : decode cX8_better 50 = .ok (.iinc 2 1, 3) := by decide +kernel
theorem dX8_better_53 : decode cX8_better 53 = .ok (.goto (-25), 3) := by decide +kernel
theorem dX8_better_56 : decode cX8_better 56 = .ok (.aload_n 0, 1) := by decide +kernel
theorem dX8_better_57 : decode cX8_better 57 = .ok (.getfield 9, 3) := by decide +kernel
theorem dX8_better_60 : decode cX8_better 60 = .ok (.bipush 44, 2) := by decide +kernel
theorem dX8_better_62 : decode cX8_better 62 = .ok (.iload_n 1, 1) := by decide +kernel
theorem dX8_better_63 : decode cX8_better 63 = .ok (.iastore, 1) := by decide +kernel
theorem dX8_better_64 : decode cX8_better 64 = .ok (.aload_n 0, 1) := by decide +kernel
theorem dX8_better_65 : decode cX8_better 65 = .ok (.invokevirtual 235, 3) := by decide +kernel
theorem dX8_better_68 : decode cX8_better 68 = .ok (.ireturn, 1) := by decide +kernel
theorem dX8_bestWith_0 : decode cX8_bestWith 0 = .ok (.aload_n 0, 1) := by decide +kernel
theorem dX8_bestWith_1 : decode cX8_bestWith 1 = .ok (.invokevirtual 201, 3) := by decide +kernel
theorem dX8_bestWith_4 : decode cX8_bestWith 4 = .ok (.ifCond .eq 10, 3) := by decide +kernel
theorem dX8_bestWith_7 : decode cX8_bestWith 7 = .ok (.aload_n 0, 1) := by decide +kernel
theorem dX8_bestWith_8 : decode cX8_bestWith 8 = .ok (.ldc 159, 2) := by decide +kernel
theorem dX8_bestWith_10 : decode cX8_bestWith 10 = .ok (.invokevirtual 101, 3) := by decide +kernel
theorem dX8_bestWith_13 : decode cX8_bestWith 13 = .ok (.ireturn, 1) := by decide +kernel
theorem dX8_bestWith_14 : decode cX8_bestWith 14 = .ok (.aload_n 0, 1) := by decide +kernel
theorem dX8_bestWith_15 : decode cX8_bestWith 15 = .ok (.invokevirtual 229, 3) := by decide +kernel
theorem dX8_bestWith_18 : decode cX8_bestWith 18 = .ok (.iconst 0, 1) := by decide +kernel
theorem dX8_bestWith_19 : decode cX8_bestWith 19 = .ok (.istore 4, 2) := by decide +kernel
theorem dX8_bestWith_21 : decode cX8_bestWith 21 = .ok (.iload 4, 2) := by decide +kernel
theorem dX8_bestWith_23 : decode cX8_bestWith 23 = .ok (.aload_n 0, 1) := by decide +kernel
theorem dX8_bestWith_24 : decode cX8_bestWith 24 = .ok (.getfield 9, 3) := by decide +kernel
theorem dX8_bestWith_27 : decode cX8_bestWith 27 = .ok (.bipush 8, 2) := by decide +kernel
theorem dX8_bestWith_29 : decode cX8_bestWith 29 = .ok (.iaload, 1) := by decide +kernel
theorem dX8_bestWith_30 : decode cX8_bestWith 30 = .ok (.if_icmp .ge 60, 3) := by decide +kernel
theorem dX8_bestWith_33 : decode cX8_bestWith 33 = .ok (.iload_n 3, 1) := by decide +kernel
theorem dX8_bestWith_34 : decode cX8_bestWith 34 = .ok (.ifCond .ne 14, 3) := by decide +kernel
theorem dX8_bestWith_37 : decode cX8_bestWith 37 = .ok (.aload_n 0, 1) := by decide +kernel
theorem dX8_bestWith_38 : decode cX8_bestWith 38 = .ok (.iload 4, 2) := by decide +kernel
theorem dX8_bestWith_40 : decode cX8_bestWith 40 = .ok (.iload_n 1, 1) := by decide +kernel
theorem dX8_bestWith_41 : decode cX8_bestWith 41 = .ok (.invokevirtual 113, 3) := by decide +kernel
theorem dX8_bestWith_44 : decode cX8_bestWith 44 = .ok (.iload_n 2, 1) := by decide +kernel
theorem dX8_bestWith_45 : decode cX8_bestWith 45 = .ok (.if_icmp .eq 39, 3) := by decide +kernel
theorem dX8_bestWith_48 : decode cX8_bestWith 48 = .ok (.aload_n 0, 1) := by decide +kernel
theorem dX8_bestWith_49 : decode cX8_bestWith 49 = .ok (.iload 4, 2) := by decide +kernel
theorem dX8_bestWith_51 : decode cX8_bestWith 51 = .ok (.iload_n 1, 1) := by decide +kernel
theorem dX8_bestWith_52 : decode cX8_bestWith 52 = .ok (.invokestatic 82, 3) := by decide +kernel
theorem dX8_bestWith_55 : decode cX8_bestWith 55 = .ok (.iload_n 2, 1) := by decide +kernel
theorem dX8_bestWith_56 : decode cX8_bestWith 56 = .ok (.invokevirtual 129, 3) := by decide +kernel
theorem dX8_bestWith_59 : decode cX8_bestWith 59 = .ok (.istore 5, 2) := by decide +kernel
theorem dX8_bestWith_61 : decode cX8_bestWith 61 = .ok (.aload_n 0, 1) := by decide +kernel
theorem dX8_bestWith_62 : decode cX8_bestWith 62 = .ok (.iload 4, 2) := by decide +kernel
theorem dX8_bestWith_64 : decode cX8_bestWith 64 = .ok (.aload_n 0, 1) := by decide +kernel
theorem dX8_bestWith_65 : decode cX8_bestWith 65 = .ok (.invokevirtual 220, 3) := by decide +kernel
theorem dX8_bestWith_68 : decode cX8_bestWith 68 = .ok (.invokevirtual 232, 3) := by decide +kernel
theorem dX8_bestWith_71 : decode cX8_bestWith 71 = .ok (.aload_n 0, 1) := by decide +kernel
theorem dX8_bestWith_72 : decode cX8_bestWith 72 = .ok (.getfield 9, 3) := by decide +kernel
theorem dX8_bestWith_75 : decode cX8_bestWith 75 = .ok (.iload 4, 2) := by decide +kernel
theorem dX8_bestWith_77 : decode cX8_bestWith 77 = .ok (.iload_n 1, 1) := by decide +kernel
theorem dX8_bestWith_78 : decode cX8_bestWith 78 = .ok (.invokestatic 82, 3) := by decide +kernel
theorem dX8_bestWith_81 : decode cX8_bestWith 81 = .ok (.iload 5, 2) := by decide +kernel
theorem dX8_bestWith_83 : decode cX8_bestWith 83 = .ok (.iastore, 1) := by decide +kernel
theorem dX8_bestWith_84 : decode cX8_bestWith 84 = .ok (.iinc 4 1, 3) := by decide +kernel
theorem dX8_bestWith_87 : decode cX8_bestWith 87 = .ok (.goto (-66), 3) := by decide +kernel
theorem dX8_bestWith_90 : decode cX8_bestWith 90 = .ok (.aload_n 0, 1) := by decide +kernel
theorem dX8_bestWith_91 : decode cX8_bestWith 91 = .ok (.invokevirtual 235, 3) := by decide +kernel
theorem dX8_bestWith_94 : decode cX8_bestWith 94 = .ok (.ireturn, 1) := by decide +kernel
theorem dX8_umbrella_0 : decode cX8_umbrella 0 = .ok (.aload_n 0, 1) := by decide +kernel
theorem dX8_umbrella_1 : decode cX8_umbrella 1 = .ok (.iconst 4, 1) := by decide +kernel
theorem dX8_umbrella_2 : decode cX8_umbrella 2 = .ok (.iconst 1, 1) := by decide +kernel
theorem dX8_umbrella_3 : decode cX8_umbrella 3 = .ok (.iconst 0, 1) := by decide +kernel
theorem dX8_umbrella_4 : decode cX8_umbrella 4 = .ok (.invokevirtual 238, 3) := by decide +kernel
theorem dX8_umbrella_7 : decode cX8_umbrella 7 = .ok (.ireturn, 1) := by decide +kernel
theorem dX8_shade_0 : decode cX8_shade 0 = .ok (.aload_n 0, 1) := by decide +kernel
theorem dX8_shade_1 : decode cX8_shade 1 = .ok (.iconst 0, 1) := by decide +kernel
theorem dX8_shade_2 : decode cX8_shade 2 = .ok (.iconst 1, 1) := by decide +kernel
theorem dX8_shade_3 : decode cX8_shade 3 = .ok (.iconst 1, 1) := by decide +kernel
theorem dX8_shade_4 : decode cX8_shade 4 = .ok (.invokevirtual 238, 3) := by decide +kernel
theorem dX8_shade_7 : decode cX8_shade 7 = .ok (.ireturn, 1) := by decide +kernel
theorem dX8_needed_0 : decode cX8_needed 0 = .ok (.aload_n 0, 1) := by decide +kernel
theorem dX8_needed_1 : decode cX8_needed 1 = .ok (.invokevirtual 201, 3) := by decide +kernel
theorem dX8_needed_4 : decode cX8_needed 4 = .ok (.ifCond .eq 10, 3) := by decide +kernel
theorem dX8_needed_7 : decode cX8_needed 7 = .ok (.aload_n 0, 1) := by decide +kernel
theorem dX8_needed_8 : decode cX8_needed 8 = .ok (.ldc 159, 2) := by decide +kernel
theorem dX8_needed_10 : decode cX8_needed 10 = .ok (.invokevirtual 101, 3) := by decide +kernel
theorem dX8_needed_13 : decode cX8_needed 13 = .ok (.ireturn, 1) := by decide +kernel
theorem dX8_needed_14 : decode cX8_needed 14 = .ok (.aload_n 0, 1) := by decide +kernel
theorem dX8_needed_15 : decode cX8_needed 15 = .ok (.invokevirtual 220, 3) := by decide +kernel
theorem dX8_needed_18 : decode cX8_needed 18 = .ok (.ifCond .ge 10, 3) := by decide +kernel
theorem dX8_needed_21 : decode cX8_needed 21 = .ok (.aload_n 0, 1) := by decide +kernel
theorem dX8_needed_22 : decode cX8_needed 22 = .ok (.ldc 144, 2) := by decide +kernel
theorem dX8_needed_24 : decode cX8_needed 24 = .ok (.invokevirtual 101, 3) := by decide +kernel
theorem dX8_needed_27 : decode cX8_needed 27 = .ok (.ireturn, 1) := by decide +kernel
theorem dX8_needed_28 : decode cX8_needed 28 = .ok (.iconst 0, 1) := by decide +kernel
theorem dX8_needed_29 : decode cX8_needed 29 = .ok (.istore_n 1, 1) := by decide +kernel
theorem dX8_needed_30 : decode cX8_needed 30 = .ok (.iconst 0, 1) := by decide +kernel
theorem dX8_needed_31 : decode cX8_needed 31 = .ok (.istore_n 2, 1) := by decide +kernel
theorem dX8_needed_32 : decode cX8_needed 32 = .ok (.iload_n 2, 1) := by decide +kernel
theorem dX8_needed_33 : decode cX8_needed 33 = .ok (.aload_n 0, 1) := by decide +kernel
theorem dX8_needed_34 : decode cX8_needed 34 = .ok (.getfield 9, 3) := by decide +kernel
theorem dX8_needed_37 : decode cX8_needed 37 = .ok (.bipush 8, 2) := by decide +kernel
theorem dX8_needed_39 : decode cX8_needed 39 = .ok (.iaload, 1) := by decide +kernel
theorem dX8_needed_40 : decode cX8_needed 40 = .ok (.if_icmp .ge 31, 3) := by decide +kernel
theorem dX8_needed_43 : decode cX8_needed 43 = .ok (.aload_n 0, 1) := by decide +kernel
theorem dX8_needed_44 : decode cX8_needed 44 = .ok (.iload_n 2, 1) := by decide +kernel
theorem dX8_needed_45 : decode cX8_needed 45 = .ok (.putfield 22, 3) := by decide +kernel
theorem dX8_needed_48 : decode cX8_needed 48 = .ok (.iload_n 1, 1) := by decide +kernel
theorem dX8_needed_49 : decode cX8_needed 49 = .ok (.aload_n 0, 1) := by decide +kernel
theorem dX8_needed_50 : decode cX8_needed 50 = .ok (.invokevirtual 220, 3) := by decide +kernel
theorem dX8_needed_53 : decode cX8_needed 53 = .ok (.ifCond .ge 9, 3) := by decide +kernel
theorem dX8_needed_56 : decode cX8_needed 56 = .ok (.iconst 1, 1) := by decide +kernel
theorem dX8_needed_57 : decode cX8_needed 57 = .ok (.iload_n 2, 1) := by decide +kernel
theorem dX8_needed_58 : decode cX8_needed 58 = .ok (.ishl, 1) := by decide +kernel
theorem dX8_needed_59 : decode cX8_needed 59 = .ok (.goto 4, 3) := by decide +kernel
theorem dX8_needed_62 : decode cX8_needed 62 = .ok (.iconst 0, 1) := by decide +kernel
theorem dX8_needed_63 : decode cX8_needed 63 = .ok (.ior, 1) := by decide +kernel
theorem dX8_needed_64 : decode cX8_needed 64 = .ok (.istore_n 1, 1) := by decide +kernel
theorem dX8_needed_65 : decode cX8_needed 65 = .ok (.iinc 2 1, 3) := by decide +kernel
theorem dX8_needed_68 : decode cX8_needed 68 = .ok (.goto (-36), 3) := by decide +kernel
theorem dX8_needed_71 : decode cX8_needed 71 = .ok (.aload_n 0, 1) := by decide +kernel
theorem dX8_needed_72 : decode cX8_needed 72 = .ok (.iconst (-1), 1) := by decide +kernel
theorem dX8_needed_73 : decode cX8_needed 73 = .ok (.putfield 22, 3) := by decide +kernel
theorem dX8_needed_76 : decode cX8_needed 76 = .ok (.iload_n 1, 1) := by decide +kernel
theorem dX8_needed_77 : decode cX8_needed 77 = .ok (.ireturn, 1) := by decide +kernel
theorem dX8_kindFor_0 : decode cX8_kindFor 0 = .ok (.aload_n 0, 1) := by decide +kernel
theorem dX8_kindFor_1 : decode cX8_kindFor 1 = .ok (.iload_n 1, 1) := by decide +kernel
theorem dX8_kindFor_2 : decode cX8_kindFor 2 = .ok (.invokevirtual 123, 3) := by decide +kernel
theorem dX8_kindFor_5 : decode cX8_kindFor 5 = .ok (.ifCond .ne 10, 3) := by decide +kernel
theorem dX8_kindFor_8 : decode cX8_kindFor 8 = .ok (.aload_n 0, 1) := by decide +kernel
theorem dX8_kindFor_9 : decode cX8_kindFor 9 = .ok (.ldc 73, 2) := by decide +kernel
theorem dX8_kindFor_11 : decode cX8_kindFor 11 = .ok (.invokevirtual 101, 3) := by decide +kernel
theorem dX8_kindFor_14 : decode cX8_kindFor 14 = .ok (.ireturn, 1) := by decide +kernel
theorem dX8_kindFor_15 : decode cX8_kindFor 15 = .ok (.aload_n 0, 1) := by decide +kernel
theorem dX8_kindFor_16 : decode cX8_kindFor 16 = .ok (.invokevirtual 229, 3) := by decide +kernel
theorem dX8_kindFor_19 : decode cX8_kindFor 19 = .ok (.aload_n 0, 1) := by decide +kernel
theorem dX8_kindFor_20 : decode cX8_kindFor 20 = .ok (.iload_n 1, 1) := by decide +kernel
theorem dX8_kindFor_21 : decode cX8_kindFor 21 = .ok (.iconst 0, 1) := by decide +kernel
theorem dX8_kindFor_22 : decode cX8_kindFor 22 = .ok (.invokevirtual 113, 3) := by decide +kernel
theorem dX8_kindFor_25 : decode cX8_kindFor 25 = .ok (.istore_n 2, 1) := by decide +kernel
theorem dX8_kindFor_26 : decode cX8_kindFor 26 = .ok (.iconst 0, 1) := by decide +kernel
theorem dX8_kindFor_27 : decode cX8_kindFor 27 = .ok (.istore_n 3, 1) := by decide +kernel
theorem dX8_kindFor_28 : decode cX8_kindFor 28 = .ok (.iload_n 3, 1) := by decide +kernel
theorem dX8_kindFor_29 : decode cX8_kindFor 29 = .ok (.bipush 6, 2) := by decide +kernel
theorem dX8_kindFor_31 : decode cX8_kindFor 31 = .ok (.if_icmp .gt 42, 3) := by decide +kernel
theorem dX8_kindFor_34 : decode cX8_kindFor 34 = .ok (.aload_n 0, 1) := by decide +kernel
theorem dX8_kindFor_35 : decode cX8_kindFor 35 = .ok (.getfield 9, 3) := by decide +kernel
theorem dX8_kindFor_38 : decode cX8_kindFor 38 = .ok (.iload_n 1, 1) := by decide +kernel
theorem dX8_kindFor_39 : decode cX8_kindFor 39 = .ok (.iconst 0, 1) := by decide +kernel
theorem dX8_kindFor_40 : decode cX8_kindFor 40 = .ok (.invokestatic 82, 3) := by decide +kernel
theorem dX8_kindFor_43 : decode cX8_kindFor 43 = .ok (.iload_n 3, 1) := by decide +kernel
theorem dX8_kindFor_44 : decode cX8_kindFor 44 = .ok (.iastore, 1) := by decide +kernel
theorem dX8_kindFor_45 : decode cX8_kindFor 45 = .ok (.aload_n 0, 1) := by decide +kernel
theorem dX8_kindFor_46 : decode cX8_kindFor 46 = .ok (.iload_n 3, 1) := by decide +kernel
theorem dX8_kindFor_47 : decode cX8_kindFor 47 = .ok (.aload_n 0, 1) := by decide +kernel
theorem dX8_kindFor_48 : decode cX8_kindFor 48 = .ok (.invokevirtual 145, 3) := by decide +kernel
theorem dX8_kindFor_51 : decode cX8_kindFor 51 = .ok (.aload_n 0, 1) := by decide +kernel
theorem dX8_kindFor_52 : decode cX8_kindFor 52 = .ok (.iload_n 1, 1) := by decide +kernel
theorem dX8_kindFor_53 : decode cX8_kindFor 53 = .ok (.aload_n 0, 1) := by decide +kernel
theorem dX8_kindFor_54 : decode cX8_kindFor 54 = .ok (.getfield 9, 3) := by decide +kernel
theorem dX8_kindFor_57 : decode cX8_kindFor 57 = .ok (.bipush 50, 2) := by decide +kernel
theorem dX8_kindFor_59 : decode cX8_kindFor 59 = .ok (.iaload, 1) := by decide +kernel
theorem dX8_kindFor_60 : decode cX8_kindFor 60 = .ok (.invokevirtual 167, 3) := by decide +kernel
theorem dX8_kindFor_63 : decode cX8_kindFor 63 = .ok (.isub, 1) := by decide +kernel
theorem dX8_kindFor_64 : decode cX8_kindFor 64 = .ok (.invokevirtual 232, 3) := by decide +kernel
theorem dX8_kindFor_67 : decode cX8_kindFor 67 = .ok (.iinc 3 1, 3) := by decide +kernel
theorem dX8_kindFor_70 : decode cX8_kindFor 70 = .ok (.goto (-42), 3) := by decide +kernel
theorem dX8_kindFor_73 : decode cX8_kindFor 73 = .ok (.aload_n 0, 1) := by decide +kernel
theorem dX8_kindFor_74 : decode cX8_kindFor 74 = .ok (.getfield 9, 3) := by decide +kernel
theorem dX8_kindFor_77 : decode cX8_kindFor 77 = .ok (.iload_n 1, 1) := by decide +kernel
theorem dX8_kindFor_78 : decode cX8_kindFor 78 = .ok (.iconst 0, 1) := by decide +kernel
theorem dX8_kindFor_79 : decode cX8_kindFor 79 = .ok (.invokestatic 82, 3) := by decide +kernel
theorem dX8_kindFor_82 : decode cX8_kindFor 82 = .ok (.iload_n 2, 1) := by decide +kernel
theorem dX8_kindFor_83 : decode cX8_kindFor 83 = .ok (.iastore, 1) := by decide +kernel
theorem dX8_kindFor_84 : decode cX8_kindFor 84 = .ok (.aload_n 0, 1) := by decide +kernel
theorem dX8_kindFor_85 : decode cX8_kindFor 85 = .ok (.getfield 226, 3) := by decide +kernel
theorem dX8_kindFor_88 : decode cX8_kindFor 88 = .ok (.ireturn, 1) := by decide +kernel
theorem dX8_reach_0 : decode cX8_reach 0 = .ok (.iconst 0, 1) := by decide +kernel
theorem dX8_reach_1 : decode cX8_reach 1 = .ok (.istore_n 1, 1) := by decide +kernel
theorem dX8_reach_2 : decode cX8_reach 2 = .ok (.iconst 1, 1) := by decide +kernel
theorem dX8_reach_3 : decode cX8_reach 3 = .ok (.aload_n 0, 1) := by decide +kernel
theorem dX8_reach_4 : decode cX8_reach 4 = .ok (.getfield 9, 3) := by decide +kernel
theorem dX8_reach_7 : decode cX8_reach 7 = .ok (.bipush 49, 2) := by decide +kernel
theorem dX8_reach_9 : decode cX8_reach 9 = .ok (.iaload, 1) := by decide +kernel
theorem dX8_reach_10 : decode cX8_reach 10 = .ok (.ishl, 1) := by decide +kernel
theorem dX8_reach_11 : decode cX8_reach 11 = .ok (.istore_n 2, 1) := by decide +kernel
theorem dX8_reach_12 : decode cX8_reach 12 = .ok (.iload_n 2, 1) := by decide +kernel
theorem dX8_reach_13 : decode cX8_reach 13 = .ok (.iload_n 1, 1) := by decide +kernel
theorem dX8_reach_14 : decode cX8_reach 14 = .ok (.if_icmp .eq 42, 3) := by decide +kernel
theorem dX8_reach_17 : decode cX8_reach 17 = .ok (.iload_n 2, 1) := by decide +kernel
theorem dX8_reach_18 : decode cX8_reach 18 = .ok (.istore_n 1, 1) := by decide +kernel
theorem dX8_reach_19 : decode cX8_reach 19 = .ok (.iconst 0, 1) := by decide +kernel
theorem dX8_reach_20 : decode cX8_reach 20 = .ok (.istore_n 3, 1) := by decide +kernel
theorem dX8_reach_21 : decode cX8_reach 21 = .ok (.iload_n 3, 1) := by decide +kernel
theorem dX8_reach_22 : decode cX8_reach 22 = .ok (.bipush 8, 2) := by decide +kernel
theorem dX8_reach_24 : decode cX8_reach 24 = .ok (.if_icmp .ge 29, 3) := by decide +kernel
theorem dX8_reach_27 : decode cX8_reach 27 = .ok (.iload_n 2, 1) := by decide +kernel
theorem dX8_reach_28 : decode cX8_reach 28 = .ok (.iload_n 1, 1) := by decide +kernel
theorem dX8_reach_29 : decode cX8_reach 29 = .ok (.iload_n 3, 1) := by decide +kernel
theorem dX8_reach_30 : decode cX8_reach 30 = .ok (.invokestatic 185, 3) := by decide +kernel
theorem dX8_reach_33 : decode cX8_reach 33 = .ok (.ifCond .eq 11, 3) := by decide +kernel
theorem dX8_reach_36 : decode cX8_reach 36 = .ok (.aload_n 0, 1) := by decide +kernel
theorem dX8_reach_37 : decode cX8_reach 37 = .ok (.iload_n 3, 1) := by decide +kernel
theorem dX8_reach_38 : decode cX8_reach 38 = .ok (.invokevirtual 141, 3) := by decide +kernel
theorem dX8_reach_41 : decode cX8_reach 41 = .ok (.goto 4, 3) := by decide +kernel
theorem dX8_reach_44 : decode cX8_reach 44 = .ok (.iconst 0, 1) := by decide +kernel
theorem dX8_reach_45 : decode cX8_reach 45 = .ok (.ior, 1) := by decide +kernel
theorem dX8_reach_46 : decode cX8_reach 46 = .ok (.istore_n 2, 1) := by decide +kernel
theorem dX8_reach_47 : decode cX8_reach 47 = .ok (.iinc 3 1, 3) := by decide +kernel
theorem dX8_reach_50 : decode cX8_reach 50 = .ok (.goto (-29), 3) := by decide +kernel
theorem dX8_reach_53 : decode cX8_reach 53 = .ok (.goto (-41), 3) := by decide +kernel
theorem dX8_reach_56 : decode cX8_reach 56 = .ok (.iload_n 1, 1) := by decide +kernel
theorem dX8_reach_57 : decode cX8_reach 57 = .ok (.ireturn, 1) := by decide +kernel
theorem dX8_drawn_0 : decode cX8_drawn 0 = .ok (.aload_n 0, 1) := by decide +kernel
theorem dX8_drawn_1 : decode cX8_drawn 1 = .ok (.getfield 9, 3) := by decide +kernel
theorem dX8_drawn_4 : decode cX8_drawn 4 = .ok (.bipush 9, 2) := by decide +kernel
theorem dX8_drawn_6 : decode cX8_drawn 6 = .ok (.aload_n 0, 1) := by decide +kernel
theorem dX8_drawn_7 : decode cX8_drawn 7 = .ok (.getfield 9, 3) := by decide +kernel
theorem dX8_drawn_10 : decode cX8_drawn 10 = .ok (.bipush 9, 2) := by decide +kernel
theorem dX8_drawn_12 : decode cX8_drawn 12 = .ok (.iaload, 1) := by decide +kernel
theorem dX8_drawn_13 : decode cX8_drawn 13 = .ok (.ldc 242, 2) := by decide +kernel
theorem dX8_drawn_15 : decode cX8_drawn 15 = .ok (.imul, 1) := by decide +kernel
theorem dX8_drawn_16 : decode cX8_drawn 16 = .ok (.sipush 12345, 3) := by decide +kernel
theorem dX8_drawn_19 : decode cX8_drawn 19 = .ok (.iadd, 1) := by decide +kernel
theorem dX8_drawn_20 : decode cX8_drawn 20 = .ok (.iastore, 1) := by decide +kernel
theorem dX8_drawn_21 : decode cX8_drawn 21 = .ok (.aload_n 0, 1) := by decide +kernel
theorem dX8_drawn_22 : decode cX8_drawn 22 = .ok (.getfield 9, 3) := by decide +kernel
theorem dX8_drawn_25 : decode cX8_drawn 25 = .ok (.bipush 9, 2) := by decide +kernel
theorem dX8_drawn_27 : decode cX8_drawn 27 = .ok (.iaload, 1) := by decide +kernel
theorem dX8_drawn_28 : decode cX8_drawn 28 = .ok (.bipush 8, 2) := by decide +kernel
theorem dX8_drawn_30 : decode cX8_drawn 30 = .ok (.iushr, 1) := by decide +kernel
theorem dX8_drawn_31 : decode cX8_drawn 31 = .ok (.iload_n 1, 1) := by decide +kernel
theorem dX8_drawn_32 : decode cX8_drawn 32 = .ok (.irem, 1) := by decide +kernel
theorem dX8_drawn_33 : decode cX8_drawn 33 = .ok (.ireturn, 1) := by decide +kernel
theorem dX8_sum_0 : decode cX8_sum 0 = .ok (.iconst 0, 1) := by decide +kernel
theorem dX8_sum_1 : decode cX8_sum 1 = .ok (.istore_n 3, 1) := by decide +kernel
theorem dX8_sum_2 : decode cX8_sum 2 = .ok (.iconst 0, 1) := by decide +kernel
theorem dX8_sum_3 : decode cX8_sum 3 = .ok (.istore 4, 2) := by decide +kernel
theorem dX8_sum_5 : decode cX8_sum 5 = .ok (.iload 4, 2) := by decide +kernel
theorem dX8_sum_7 : decode cX8_sum 7 = .ok (.iload_n 2, 1) := by decide +kernel
theorem dX8_sum_8 : decode cX8_sum 8 = .ok (.if_icmp .ge 21, 3) := by decide +kernel
theorem dX8_sum_11 : decode cX8_sum 11 = .ok (.iload_n 3, 1) := by decide +kernel
theorem dX8_sum_12 : decode cX8_sum 12 = .ok (.aload_n 0, 1) := by decide +kernel
theorem dX8_sum_13 : decode cX8_sum 13 = .ok (.getfield 9, 3) := by decide +kernel
theorem dX8_sum_16 : decode cX8_sum 16 = .ok (.iload_n 1, 1) := by decide +kernel
theorem dX8_sum_17 : decode cX8_sum 17 = .ok (.iload 4, 2) := by decide +kernel
theorem dX8_sum_19 : decode cX8_sum 19 = .ok (.iadd, 1) := by decide +kernel
theorem dX8_sum_20 : decode cX8_sum 20 = .ok (.iaload, 1) := by decide +kernel
theorem dX8_sum_21 : decode cX8_sum 21 = .ok (.iadd, 1) := by decide +kernel
theorem dX8_sum_22 : decode cX8_sum 22 = .ok (.istore_n 3, 1) := by decide +kernel
theorem dX8_sum_23 : decode cX8_sum 23 = .ok (.iinc 4 1, 3) := by decide +kernel
theorem dX8_sum_26 : decode cX8_sum 26 = .ok (.goto (-21), 3) := by decide +kernel
theorem dX8_sum_29 : decode cX8_sum 29 = .ok (.iload_n 3, 1) := by decide +kernel
theorem dX8_sum_30 : decode cX8_sum 30 = .ok (.ireturn, 1) := by decide +kernel
theorem dX8_sky_0 : decode cX8_sky 0 = .ok (.iload_n 1, 1) := by decide +kernel
theorem dX8_sky_1 : decode cX8_sky 1 = .ok (.iconst 1, 1) := by decide +kernel
theorem dX8_sky_2 : decode cX8_sky 2 = .ok (.bipush 12, 2) := by decide +kernel
theorem dX8_sky_4 : decode cX8_sky 4 = .ok (.invokestatic 78, 3) := by decide +kernel
theorem dX8_sky_7 : decode cX8_sky 7 = .ok (.ifCond .ne 10, 3) := by decide +kernel
theorem dX8_sky_10 : decode cX8_sky 10 = .ok (.aload_n 0, 1) := by decide +kernel
theorem dX8_sky_11 : decode cX8_sky 11 = .ok (.ldc 73, 2) := by decide +kernel
theorem dX8_sky_13 : decode cX8_sky 13 = .ok (.invokevirtual 101, 3) := by decide +kernel
theorem dX8_sky_16 : decode cX8_sky 16 = .ok (.ireturn, 1) := by decide +kernel
theorem dX8_sky_17 : decode cX8_sky 17 = .ok (.iconst 0, 1) := by decide +kernel
theorem dX8_sky_18 : decode cX8_sky 18 = .ok (.istore_n 2, 1) := by decide +kernel
theorem dX8_sky_19 : decode cX8_sky 19 = .ok (.iload_n 2, 1) := by decide +kernel
theorem dX8_sky_20 : decode cX8_sky 20 = .ok (.iload_n 1, 1) := by decide +kernel
theorem dX8_sky_21 : decode cX8_sky 21 = .ok (.if_icmp .ge 52, 3) := by decide +kernel
theorem dX8_sky_24 : decode cX8_sky 24 = .ok (.aload_n 0, 1) := by decide +kernel
theorem dX8_sky_25 : decode cX8_sky 25 = .ok (.bipush 12, 2) := by decide +kernel
theorem dX8_sky_27 : decode cX8_sky 27 = .ok (.invokevirtual 243, 3) := by decide +kernel
theorem dX8_sky_30 : decode cX8_sky 30 = .ok (.istore_n 3, 1) := by decide +kernel
theorem dX8_sky_31 : decode cX8_sky 31 = .ok (.aload_n 0, 1) := by decide +kernel
theorem dX8_sky_32 : decode cX8_sky 32 = .ok (.getfield 9, 3) := by decide +kernel
theorem dX8_sky_35 : decode cX8_sky 35 = .ok (.bipush 20, 2) := by decide +kernel
theorem dX8_sky_37 : decode cX8_sky 37 = .ok (.iload_n 3, 1) := by decide +kernel
theorem dX8_sky_38 : decode cX8_sky 38 = .ok (.iadd, 1) := by decide +kernel
theorem dX8_sky_39 : decode cX8_sky 39 = .ok (.aload_n 0, 1) := by decide +kernel
theorem dX8_sky_40 : decode cX8_sky 40 = .ok (.bipush 10, 2) := by decide +kernel
theorem dX8_sky_42 : decode cX8_sky 42 = .ok (.invokevirtual 243, 3) := by decide +kernel
theorem dX8_sky_45 : decode cX8_sky 45 = .ok (.iastore, 1) := by decide +kernel
theorem dX8_sky_46 : decode cX8_sky 46 = .ok (.aload_n 0, 1) := by decide +kernel
theorem dX8_sky_47 : decode cX8_sky 47 = .ok (.getfield 9, 3) := by decide +kernel
theorem dX8_sky_50 : decode cX8_sky 50 = .ok (.bipush 32, 2) := by decide +kernel
theorem dX8_sky_52 : decode cX8_sky 52 = .ok (.iload_n 3, 1) := by decide +kernel
theorem dX8_sky_53 : decode cX8_sky 53 = .ok (.iadd, 1) := by decide +kernel
theorem dX8_sky_54 : decode cX8_sky 54 = .ok (.iconst 0, 1) := by decide +kernel
theorem dX8_sky_55 : decode cX8_sky 55 = .ok (.aload_n 0, 1) := by decide +kernel
theorem dX8_sky_56 : decode cX8_sky 56 = .ok (.bipush 10, 2) := by decide +kernel
theorem dX8_sky_58 : decode cX8_sky 58 = .ok (.invokevirtual 243, 3) := by decide +kernel
theorem dX8_sky_61 : decode cX8_sky 61 = .ok (.iconst 5, 1) := by decide +kernel
theorem dX8_sky_62 : decode cX8_sky 62 = .ok (.isub, 1) := by decide +kernel
theorem dX8_sky_63 : decode cX8_sky 63 = .ok (.invokestatic 91, 3) := by decide +kernel
theorem dX8_sky_66 : decode cX8_sky 66 = .ok (.iastore, 1) := by decide +kernel
theorem dX8_sky_67 : decode cX8_sky 67 = .ok (.iinc 2 1, 3) := by decide +kernel
theorem dX8_sky_70 : decode cX8_sky 70 = .ok (.goto (-51), 3) := by decide +kernel
theorem dX8_sky_73 : decode cX8_sky 73 = .ok (.aload_n 0, 1) := by decide +kernel
theorem dX8_sky_74 : decode cX8_sky 74 = .ok (.bipush 32, 2) := by decide +kernel
theorem dX8_sky_76 : decode cX8_sky 76 = .ok (.bipush 12, 2) := by decide +kernel
theorem dX8_sky_78 : decode cX8_sky 78 = .ok (.invokevirtual 246, 3) := by decide +kernel
theorem dX8_sky_81 : decode cX8_sky 81 = .ok (.ireturn, 1) := by decide +kernel
theorem dX8_stray_0 : decode cX8_stray 0 = .ok (.iload_n 1, 1) := by decide +kernel
theorem dX8_stray_1 : decode cX8_stray 1 = .ok (.iconst 1, 1) := by decide +kernel
theorem dX8_stray_2 : decode cX8_stray 2 = .ok (.bipush 12, 2) := by decide +kernel
theorem dX8_stray_4 : decode cX8_stray 4 = .ok (.invokestatic 78, 3) := by decide +kernel
theorem dX8_stray_7 : decode cX8_stray 7 = .ok (.ifCond .ne 10, 3) := by decide +kernel
theorem dX8_stray_10 : decode cX8_stray 10 = .ok (.aload_n 0, 1) := by decide +kernel
theorem dX8_stray_11 : decode cX8_stray 11 = .ok (.ldc 73, 2) := by decide +kernel
theorem dX8_stray_13 : decode cX8_stray 13 = .ok (.invokevirtual 101, 3) := by decide +kernel
theorem dX8_stray_16 : decode cX8_stray 16 = .ok (.ireturn, 1) := by decide +kernel
theorem dX8_stray_17 : decode cX8_stray 17 = .ok (.iconst 1, 1) := by decide +kernel
theorem dX8_stray_18 : decode cX8_stray 18 = .ok (.istore_n 2, 1) := by decide +kernel
theorem dX8_stray_19 : decode cX8_stray 19 = .ok (.iconst 0, 1) := by decide +kernel
theorem dX8_stray_20 : decode cX8_stray 20 = .ok (.istore_n 3, 1) := by decide +kernel
theorem dX8_stray_21 : decode cX8_stray 21 = .ok (.iload_n 3, 1) := by decide +kernel
theorem dX8_stray_22 : decode cX8_stray 22 = .ok (.iload_n 1, 1) := by decide +kernel
theorem dX8_stray_23 : decode cX8_stray 23 = .ok (.if_icmp .ge 162, 3) := by decide +kernel
theorem dX8_stray_26 : decode cX8_stray 26 = .ok (.iload_n 2, 1) := by decide +kernel
theorem dX8_stray_27 : decode cX8_stray 27 = .ok (.ifCond .eq 158, 3) := by decide +kernel
theorem dX8_stray_30 : decode cX8_stray 30 = .ok (.aload_n 0, 1) := by decide +kernel
theorem dX8_stray_31 : decode cX8_stray 31 = .ok (.aload_n 0, 1) := by decide +kernel
theorem dX8_stray_32 : decode cX8_stray 32 = .ok (.getfield 9, 3) := by decide +kernel
theorem dX8_stray_35 : decode cX8_stray 35 = .ok (.bipush 49, 2) := by decide +kernel
theorem dX8_stray_37 : decode cX8_stray 37 = .ok (.iaload, 1) := by decide +kernel
theorem dX8_stray_38 : decode cX8_stray 38 = .ok (.invokevirtual 141, 3) := by decide +kernel
theorem dX8_stray_41 : decode cX8_stray 41 = .ok (.istore 4, 2) := by decide +kernel
theorem dX8_stray_43 : decode cX8_stray 43 = .ok (.iload 4, 2) := by decide +kernel
theorem dX8_stray_45 : decode cX8_stray 45 = .ok (.ifCond .eq 7, 3) := by decide +kernel
theorem dX8_stray_48 : decode cX8_stray 48 = .ok (.iconst 1, 1) := by decide +kernel
theorem dX8_stray_49 : decode cX8_stray 49 = .ok (.goto 4, 3) := by decide +kernel
theorem dX8_stray_52 : decode cX8_stray 52 = .ok (.iconst 0, 1) := by decide +kernel
theorem dX8_stray_53 : decode cX8_stray 53 = .ok (.istore_n 2, 1) := by decide +kernel
theorem dX8_stray_54 : decode cX8_stray 54 = .ok (.iload_n 2, 1) := by decide +kernel
theorem dX8_stray_55 : decode cX8_stray 55 = .ok (.ifCond .eq 15, 3) := by decide +kernel
theorem dX8_stray_58 : decode cX8_stray 58 = .ok (.aload_n 0, 1) := by decide +kernel
theorem dX8_stray_59 : decode cX8_stray 59 = .ok (.iload 4, 2) := by decide +kernel
theorem dX8_stray_61 : decode cX8_stray 61 = .ok (.invokestatic 164, 3) := by decide +kernel
theorem dX8_stray_64 : decode cX8_stray 64 = .ok (.invokevirtual 243, 3) := by decide +kernel
theorem dX8_stray_67 : decode cX8_stray 67 = .ok (.goto 4, 3) := by decide +kernel
theorem dX8_stray_70 : decode cX8_stray 70 = .ok (.iconst 0, 1) := by decide +kernel
theorem dX8_stray_71 : decode cX8_stray 71 = .ok (.istore 5, 2) := by decide +kernel
theorem dX8_stray_73 : decode cX8_stray 73 = .ok (.iconst 0, 1) := by decide +kernel
theorem dX8_stray_74 : decode cX8_stray 74 = .ok (.istore 6, 2) := by decide +kernel
theorem dX8_stray_76 : decode cX8_stray 76 = .ok (.iload_n 2, 1) := by decide +kernel
theorem dX8_stray_77 : decode cX8_stray 77 = .ok (.ifCond .eq 44, 3) := by decide +kernel
theorem dX8_stray_80 : decode cX8_stray 80 = .ok (.iload 4, 2) := by decide +kernel
theorem dX8_stray_82 : decode cX8_stray 82 = .ok (.iload 6, 2) := by decide +kernel
theorem dX8_stray_84 : decode cX8_stray 84 = .ok (.invokestatic 185, 3) := by decide +kernel
theorem dX8_stray_87 : decode cX8_stray 87 = .ok (.ifCond .eq 8, 3) := by decide +kernel
theorem dX8_stray_90 : decode cX8_stray 90 = .ok (.iload 5, 2) := by decide +kernel
theorem dX8_stray_92 : decode cX8_stray 92 = .ok (.ifCond .le 29, 3) := by decide +kernel
theorem dX8_stray_95 : decode cX8_stray 95 = .ok (.iload 5, 2) := by decide +kernel
theorem dX8_stray_97 : decode cX8_stray 97 = .ok (.iload 4, 2) := by decide +kernel
theorem dX8_stray_99 : decode cX8_stray 99 = .ok (.iload 6, 2) := by decide +kernel
theorem dX8_stray_101 : decode cX8_stray 101 = .ok (.invokestatic 185, 3) := by decide +kernel
theorem dX8_stray_104 : decode cX8_stray 104 = .ok (.ifCond .eq 7, 3) := by decide +kernel
theorem dX8_stray_107 : decode cX8_stray 107 = .ok (.iconst 1, 1) := by decide +kernel
theorem dX8_stray_108 : decode cX8_stray 108 = .ok (.goto 4, 3) := by decide +kernel
theorem dX8_stray_111 : decode cX8_stray 111 = .ok (.iconst 0, 1) := by decide +kernel
theorem dX8_stray_112 : decode cX8_stray 112 = .ok (.isub, 1) := by decide +kernel
theorem dX8_stray_113 : decode cX8_stray 113 = .ok (.istore 5, 2) := by decide +kernel
theorem dX8_stray_115 : decode cX8_stray 115 = .ok (.iinc 6 1, 3) := by decide +kernel
theorem dX8_stray_118 : decode cX8_stray 118 = .ok (.goto (-42), 3) := by decide +kernel
theorem dX8_stray_121 : decode cX8_stray 121 = .ok (.iload_n 2, 1) := by decide +kernel
theorem dX8_stray_122 : decode cX8_stray 122 = .ok (.ifCond .eq 19, 3) := by decide +kernel
theorem dX8_stray_125 : decode cX8_stray 125 = .ok (.aload_n 0, 1) := by decide +kernel
theorem dX8_stray_126 : decode cX8_stray 126 = .ok (.aload_n 0, 1) := by decide +kernel
theorem dX8_stray_127 : decode cX8_stray 127 = .ok (.getfield 9, 3) := by decide +kernel
theorem dX8_stray_130 : decode cX8_stray 130 = .ok (.bipush 49, 2) := by decide +kernel
theorem dX8_stray_132 : decode cX8_stray 132 = .ok (.iaload, 1) := by decide +kernel
theorem dX8_stray_133 : decode cX8_stray 133 = .ok (.iload 6, 2) := by decide +kernel
theorem dX8_stray_135 : decode cX8_stray 135 = .ok (.invokevirtual 138, 3) := by decide +kernel
theorem dX8_stray_138 : decode cX8_stray 138 = .ok (.goto 4, 3) := by decide +kernel
theorem dX8_stray_141 : decode cX8_stray 141 = .ok (.iconst (-1), 1) := by decide +kernel
theorem dX8_stray_142 : decode cX8_stray 142 = .ok (.istore 7, 2) := by decide +kernel
theorem dX8_stray_144 : decode cX8_stray 144 = .ok (.iload_n 2, 1) := by decide +kernel
theorem dX8_stray_145 : decode cX8_stray 145 = .ok (.ifCond .eq 20, 3) := by decide +kernel
theorem dX8_stray_148 : decode cX8_stray 148 = .ok (.aload_n 0, 1) := by decide +kernel
theorem dX8_stray_149 : decode cX8_stray 149 = .ok (.aload_n 0, 1) := by decide +kernel
theorem dX8_stray_150 : decode cX8_stray 150 = .ok (.iload 7, 2) := by decide +kernel
theorem dX8_stray_152 : decode cX8_stray 152 = .ok (.invokevirtual 126, 3) := by decide +kernel
theorem dX8_stray_155 : decode cX8_stray 155 = .ok (.invokevirtual 156, 3) := by decide +kernel
theorem dX8_stray_158 : decode cX8_stray 158 = .ok (.ifCond .ne 7, 3) := by decide +kernel
theorem dX8_stray_161 : decode cX8_stray 161 = .ok (.iconst 1, 1) := by decide +kernel
theorem dX8_stray_162 : decode cX8_stray 162 = .ok (.goto 4, 3) := by decide +kernel
theorem dX8_stray_165 : decode cX8_stray 165 = .ok (.iconst 0, 1) := by decide +kernel
theorem dX8_stray_166 : decode cX8_stray 166 = .ok (.istore_n 2, 1) := by decide +kernel
theorem dX8_stray_167 : decode cX8_stray 167 = .ok (.iload_n 2, 1) := by decide +kernel
theorem dX8_stray_168 : decode cX8_stray 168 = .ok (.ifCond .eq 11, 3) := by decide +kernel
theorem dX8_stray_171 : decode cX8_stray 171 = .ok (.aload_n 0, 1) := by decide +kernel
theorem dX8_stray_172 : decode cX8_stray 172 = .ok (.iload 7, 2) := by decide +kernel
theorem dX8_stray_174 : decode cX8_stray 174 = .ok (.iload 6, 2) := by decide +kernel
theorem dX8_stray_176 : decode cX8_stray 176 = .ok (.invokevirtual 160, 3) := by decide +kernel
theorem dX8_stray_179 : decode cX8_stray 179 = .ok (.iinc 3 1, 3) := by decide +kernel
theorem dX8_stray_182 : decode cX8_stray 182 = .ok (.goto (-161), 3) := by decide +kernel
theorem dX8_stray_185 : decode cX8_stray 185 = .ok (.aload_n 0, 1) := by decide +kernel
theorem dX8_stray_186 : decode cX8_stray 186 = .ok (.invokevirtual 145, 3) := by decide +kernel
theorem dX8_stray_189 : decode cX8_stray 189 = .ok (.ireturn, 1) := by decide +kernel
theorem dX8_year_0 : decode cX8_year 0 = .ok (.aload_n 0, 1) := by decide +kernel
theorem dX8_year_1 : decode cX8_year 1 = .ok (.invokevirtual 145, 3) := by decide +kernel
theorem dX8_year_4 : decode cX8_year 4 = .ok (.istore_n 1, 1) := by decide +kernel
theorem dX8_year_5 : decode cX8_year 5 = .ok (.aload_n 0, 1) := by decide +kernel
theorem dX8_year_6 : decode cX8_year 6 = .ok (.getfield 9, 3) := by decide +kernel
theorem dX8_year_9 : decode cX8_year 9 = .ok (.bipush 45, 2) := by decide +kernel
theorem dX8_year_11 : decode cX8_year 11 = .ok (.iload_n 1, 1) := by decide +kernel
theorem dX8_year_12 : decode cX8_year 12 = .ok (.bipush 10, 2) := by decide +kernel
theorem dX8_year_14 : decode cX8_year 14 = .ok (.idiv, 1) := by decide +kernel
theorem dX8_year_15 : decode cX8_year 15 = .ok (.iastore, 1) := by decide +kernel
theorem dX8_year_16 : decode cX8_year 16 = .ok (.aload_n 0, 1) := by decide +kernel
theorem dX8_year_17 : decode cX8_year 17 = .ok (.getfield 9, 3) := by decide +kernel
theorem dX8_year_20 : decode cX8_year 20 = .ok (.bipush 46, 2) := by decide +kernel
theorem dX8_year_22 : decode cX8_year 22 = .ok (.iconst 2, 1) := by decide +kernel
theorem dX8_year_23 : decode cX8_year 23 = .ok (.iload_n 1, 1) := by decide +kernel
theorem dX8_year_24 : decode cX8_year 24 = .ok (.imul, 1) := by decide +kernel
theorem dX8_year_25 : decode cX8_year 25 = .ok (.bipush 10, 2) := by decide +kernel
theorem dX8_year_27 : decode cX8_year 27 = .ok (.idiv, 1) := by decide +kernel
theorem dX8_year_28 : decode cX8_year 28 = .ok (.iastore, 1) := by decide +kernel
theorem dX8_year_29 : decode cX8_year 29 = .ok (.aload_n 0, 1) := by decide +kernel
theorem dX8_year_30 : decode cX8_year 30 = .ok (.getfield 9, 3) := by decide +kernel
theorem dX8_year_33 : decode cX8_year 33 = .ok (.bipush 47, 2) := by decide +kernel
theorem dX8_year_35 : decode cX8_year 35 = .ok (.iconst 2, 1) := by decide +kernel
theorem dX8_year_36 : decode cX8_year 36 = .ok (.iload_n 1, 1) := by decide +kernel
theorem dX8_year_37 : decode cX8_year 37 = .ok (.imul, 1) := by decide +kernel
theorem dX8_year_38 : decode cX8_year 38 = .ok (.bipush 10, 2) := by decide +kernel
theorem dX8_year_40 : decode cX8_year 40 = .ok (.idiv, 1) := by decide +kernel
theorem dX8_year_41 : decode cX8_year 41 = .ok (.iastore, 1) := by decide +kernel
theorem dX8_year_42 : decode cX8_year 42 = .ok (.aload_n 0, 1) := by decide +kernel
theorem dX8_year_43 : decode cX8_year 43 = .ok (.getfield 9, 3) := by decide +kernel
theorem dX8_year_46 : decode cX8_year 46 = .ok (.bipush 48, 2) := by decide +kernel
theorem dX8_year_48 : decode cX8_year 48 = .ok (.iload_n 1, 1) := by decide +kernel
theorem dX8_year_49 : decode cX8_year 49 = .ok (.aload_n 0, 1) := by decide +kernel
theorem dX8_year_50 : decode cX8_year 50 = .ok (.getfield 9, 3) := by decide +kernel
theorem dX8_year_53 : decode cX8_year 53 = .ok (.bipush 45, 2) := by decide +kernel
theorem dX8_year_55 : decode cX8_year 55 = .ok (.iaload, 1) := by decide +kernel
theorem dX8_year_56 : decode cX8_year 56 = .ok (.isub, 1) := by decide +kernel
theorem dX8_year_57 : decode cX8_year 57 = .ok (.aload_n 0, 1) := by decide +kernel
theorem dX8_year_58 : decode cX8_year 58 = .ok (.getfield 9, 3) := by decide +kernel
theorem dX8_year_61 : decode cX8_year 61 = .ok (.bipush 46, 2) := by decide +kernel
theorem dX8_year_63 : decode cX8_year 63 = .ok (.iaload, 1) := by decide +kernel
theorem dX8_year_64 : decode cX8_year 64 = .ok (.isub, 1) := by decide +kernel
theorem dX8_year_65 : decode cX8_year 65 = .ok (.aload_n 0, 1) := by decide +kernel
theorem dX8_year_66 : decode cX8_year 66 = .ok (.getfield 9, 3) := by decide +kernel
theorem dX8_year_69 : decode cX8_year 69 = .ok (.bipush 47, 2) := by decide +kernel
theorem dX8_year_71 : decode cX8_year 71 = .ok (.iaload, 1) := by decide +kernel
theorem dX8_year_72 : decode cX8_year 72 = .ok (.isub, 1) := by decide +kernel
theorem dX8_year_73 : decode cX8_year 73 = .ok (.iastore, 1) := by decide +kernel
theorem dX8_year_74 : decode cX8_year 74 = .ok (.aload_n 0, 1) := by decide +kernel
theorem dX8_year_75 : decode cX8_year 75 = .ok (.invokevirtual 249, 3) := by decide +kernel
theorem dX8_year_78 : decode cX8_year 78 = .ok (.istore_n 2, 1) := by decide +kernel
theorem dX8_year_79 : decode cX8_year 79 = .ok (.iload_n 2, 1) := by decide +kernel
theorem dX8_year_80 : decode cX8_year 80 = .ok (.ifCond .ge 7, 3) := by decide +kernel
theorem dX8_year_83 : decode cX8_year 83 = .ok (.iload_n 2, 1) := by decide +kernel
theorem dX8_year_84 : decode cX8_year 84 = .ok (.goto 4, 3) := by decide +kernel
theorem dX8_year_87 : decode cX8_year 87 = .ok (.iload_n 1, 1) := by decide +kernel
theorem dX8_year_88 : decode cX8_year 88 = .ok (.ireturn, 1) := by decide +kernel
theorem dX8_seed_0 : decode cX8_seed 0 = .ok (.aload_n 0, 1) := by decide +kernel
theorem dX8_seed_1 : decode cX8_seed 1 = .ok (.bipush 9, 2) := by decide +kernel
theorem dX8_seed_3 : decode cX8_seed 3 = .ok (.iload_n 1, 1) := by decide +kernel
theorem dX8_seed_4 : decode cX8_seed 4 = .ok (.invokevirtual 129, 3) := by decide +kernel
theorem dX8_seed_7 : decode cX8_seed 7 = .ok (.ireturn, 1) := by decide +kernel
theorem dX8_feed_0 : decode cX8_feed 0 = .ok (.iload_n 2, 1) := by decide +kernel
theorem dX8_feed_1 : decode cX8_feed 1 = .ok (.iconst 1, 1) := by decide +kernel
theorem dX8_feed_2 : decode cX8_feed 2 = .ok (.iconst 4, 1) := by decide +kernel
theorem dX8_feed_3 : decode cX8_feed 3 = .ok (.invokestatic 78, 3) := by decide +kernel
theorem dX8_feed_6 : decode cX8_feed 6 = .ok (.ifCond .ne 10, 3) := by decide +kernel
theorem dX8_feed_9 : decode cX8_feed 9 = .ok (.aload_n 0, 1) := by decide +kernel
theorem dX8_feed_10 : decode cX8_feed 10 = .ok (.ldc 73, 2) := by decide +kernel
theorem dX8_feed_12 : decode cX8_feed 12 = .ok (.invokevirtual 101, 3) := by decide +kernel
theorem dX8_feed_15 : decode cX8_feed 15 = .ok (.ireturn, 1) := by decide +kernel
theorem dX8_feed_16 : decode cX8_feed 16 = .ok (.aload_n 0, 1) := by decide +kernel
theorem dX8_feed_17 : decode cX8_feed 17 = .ok (.getfield 252, 3) := by decide +kernel
theorem dX8_feed_20 : decode cX8_feed 20 = .ok (.iload_n 2, 1) := by decide +kernel
theorem dX8_feed_21 : decode cX8_feed 21 = .ok (.iadd, 1) := by decide +kernel
theorem dX8_feed_22 : decode cX8_feed 22 = .ok (.bipush 120, 2) := by decide +kernel
theorem dX8_feed_24 : decode cX8_feed 24 = .ok (.if_icmp .le 10, 3) := by decide +kernel
theorem dX8_feed_27 : decode cX8_feed 27 = .ok (.aload_n 0, 1) := by decide +kernel
theorem dX8_feed_28 : decode cX8_feed 28 = .ok (.ldc 105, 2) := by decide +kernel
theorem dX8_feed_30 : decode cX8_feed 30 = .ok (.invokevirtual 101, 3) := by decide +kernel
theorem dX8_feed_33 : decode cX8_feed 33 = .ok (.ireturn, 1) := by decide +kernel
theorem dX8_feed_34 : decode cX8_feed 34 = .ok (.iload_n 2, 1) := by decide +kernel
theorem dX8_feed_35 : decode cX8_feed 35 = .ok (.iconst 1, 1) := by decide +kernel
theorem dX8_feed_36 : decode cX8_feed 36 = .ok (.isub, 1) := by decide +kernel
theorem dX8_feed_37 : decode cX8_feed 37 = .ok (.istore_n 3, 1) := by decide +kernel
theorem dX8_feed_38 : decode cX8_feed 38 = .ok (.iload_n 3, 1) := by decide +kernel
theorem dX8_feed_39 : decode cX8_feed 39 = .ok (.ifCond .lt 38, 3) := by decide +kernel
theorem dX8_feed_42 : decode cX8_feed 42 = .ok (.aload_n 0, 1) := by decide +kernel
theorem dX8_feed_43 : decode cX8_feed 43 = .ok (.getfield 35, 3) := by decide +kernel
theorem dX8_feed_46 : decode cX8_feed 46 = .ok (.aload_n 0, 1) := by decide +kernel
theorem dX8_feed_47 : decode cX8_feed 47 = .ok (.getfield 252, 3) := by decide +kernel
theorem dX8_feed_50 : decode cX8_feed 50 = .ok (.iload_n 1, 1) := by decide +kernel
theorem dX8_feed_51 : decode cX8_feed 51 = .ok (.bipush 8, 2) := by decide +kernel
theorem dX8_feed_53 : decode cX8_feed 53 = .ok (.iload_n 3, 1) := by decide +kernel
theorem dX8_feed_54 : decode cX8_feed 54 = .ok (.imul, 1) := by decide +kernel
theorem dX8_feed_55 : decode cX8_feed 55 = .ok (.ishr, 1) := by decide +kernel
theorem dX8_feed_56 : decode cX8_feed 56 = .ok (.sipush 255, 3) := by decide +kernel
theorem dX8_feed_59 : decode cX8_feed 59 = .ok (.iand, 1) := by decide +kernel
theorem dX8_feed_60 : decode cX8_feed 60 = .ok (.iastore, 1) := by decide +kernel
theorem dX8_feed_61 : decode cX8_feed 61 = .ok (.aload_n 0, 1) := by decide +kernel
theorem dX8_feed_62 : decode cX8_feed 62 = .ok (.dup, 1) := by decide +kernel
theorem dX8_feed_63 : decode cX8_feed 63 = .ok (.getfield 252, 3) := by decide +kernel
theorem dX8_feed_66 : decode cX8_feed 66 = .ok (.iconst 1, 1) := by decide +kernel
theorem dX8_feed_67 : decode cX8_feed 67 = .ok (.iadd, 1) := by decide +kernel
theorem dX8_feed_68 : decode cX8_feed 68 = .ok (.putfield 252, 3) := by decide +kernel
theorem dX8_feed_71 : decode cX8_feed 71 = .ok (.iinc 3 (-1), 3) := by decide +kernel
theorem dX8_feed_74 : decode cX8_feed 74 = .ok (.goto (-36), 3) := by decide +kernel
theorem dX8_feed_77 : decode cX8_feed 77 = .ok (.aload_n 0, 1) := by decide +kernel
theorem dX8_feed_78 : decode cX8_feed 78 = .ok (.getfield 252, 3) := by decide +kernel
theorem dX8_feed_81 : decode cX8_feed 81 = .ok (.ireturn, 1) := by decide +kernel
theorem dX8_wipe_0 : decode cX8_wipe 0 = .ok (.aload_n 0, 1) := by decide +kernel
theorem dX8_wipe_1 : decode cX8_wipe 1 = .ok (.getfield 252, 3) := by decide +kernel
theorem dX8_wipe_4 : decode cX8_wipe 4 = .ok (.istore_n 1, 1) := by decide +kernel
theorem dX8_wipe_5 : decode cX8_wipe 5 = .ok (.aload_n 0, 1) := by decide +kernel
theorem dX8_wipe_6 : decode cX8_wipe 6 = .ok (.iconst 0, 1) := by decide +kernel
theorem dX8_wipe_7 : decode cX8_wipe 7 = .ok (.putfield 252, 3) := by decide +kernel
theorem dX8_wipe_10 : decode cX8_wipe 10 = .ok (.iload_n 1, 1) := by decide +kernel
theorem dX8_wipe_11 : decode cX8_wipe 11 = .ok (.ireturn, 1) := by decide +kernel
theorem dX8_byteAt_0 : decode cX8_byteAt 0 = .ok (.iload_n 1, 1) := by decide +kernel
theorem dX8_byteAt_1 : decode cX8_byteAt 1 = .ok (.aload_n 0, 1) := by decide +kernel
theorem dX8_byteAt_2 : decode cX8_byteAt 2 = .ok (.getfield 252, 3) := by decide +kernel
theorem dX8_byteAt_5 : decode cX8_byteAt 5 = .ok (.if_icmp .ge 12, 3) := by decide +kernel
theorem dX8_byteAt_8 : decode cX8_byteAt 8 = .ok (.aload_n 0, 1) := by decide +kernel
theorem dX8_byteAt_9 : decode cX8_byteAt 9 = .ok (.getfield 35, 3) := by decide +kernel
theorem dX8_byteAt_12 : decode cX8_byteAt 12 = .ok (.iload_n 1, 1) := by decide +kernel
theorem dX8_byteAt_13 : decode cX8_byteAt 13 = .ok (.iaload, 1) := by decide +kernel
theorem dX8_byteAt_14 : decode cX8_byteAt 14 = .ok (.goto 4, 3) := by decide +kernel
theorem dX8_byteAt_17 : decode cX8_byteAt 17 = .ok (.iconst (-1), 1) := by decide +kernel
theorem dX8_byteAt_18 : decode cX8_byteAt 18 = .ok (.ireturn, 1) := by decide +kernel
theorem dX8_next__0 : decode cX8_next_ 0 = .ok (.aload_n 0, 1) := by decide +kernel
theorem dX8_next__1 : decode cX8_next_ 1 = .ok (.aload_n 0, 1) := by decide +kernel
theorem dX8_next__2 : decode cX8_next_ 2 = .ok (.getfield 255, 3) := by decide +kernel
theorem dX8_next__5 : decode cX8_next_ 5 = .ok (.putfield 258, 3) := by decide +kernel
theorem dX8_next__8 : decode cX8_next_ 8 = .ok (.aload_n 0, 1) := by decide +kernel
theorem dX8_next__9 : decode cX8_next_ 9 = .ok (.aload_n 0, 1) := by decide +kernel
theorem dX8_next__10 : decode cX8_next_ 10 = .ok (.getfield 258, 3) := by decide +kernel
theorem dX8_next__13 : decode cX8_next_ 13 = .ok (.invokevirtual 261, 3) := by decide +kernel
theorem dX8_next__16 : decode cX8_next_ 16 = .ok (.bipush 32, 2) := by decide +kernel
theorem dX8_next__18 : decode cX8_next_ 18 = .ok (.if_icmp .ne 16, 3) := by decide +kernel
theorem dX8_next__21 : decode cX8_next_ 21 = .ok (.aload_n 0, 1) := by decide +kernel
theorem dX8_next__22 : decode cX8_next_ 22 = .ok (.dup, 1) := by decide +kernel
theorem dX8_next__23 : decode cX8_next_ 23 = .ok (.getfield 258, 3) := by decide +kernel
theorem dX8_next__26 : decode cX8_next_ 26 = .ok (.iconst 1, 1) := by decide +kernel
theorem dX8_next__27 : decode cX8_next_ 27 = .ok (.iadd, 1) := by decide +kernel
theorem dX8_next__28 : decode cX8_next_ 28 = .ok (.putfield 258, 3) := by decide +kernel
theorem dX8_next__31 : decode cX8_next_ 31 = .ok (.goto (-23), 3) := by decide +kernel
theorem dX8_next__34 : decode cX8_next_ 34 = .ok (.aload_n 0, 1) := by decide +kernel
theorem dX8_next__35 : decode cX8_next_ 35 = .ok (.aload_n 0, 1) := by decide +kernel
theorem dX8_next__36 : decode cX8_next_ 36 = .ok (.getfield 258, 3) := by decide +kernel
theorem dX8_next__39 : decode cX8_next_ 39 = .ok (.invokevirtual 261, 3) := by decide +kernel
theorem dX8_next__42 : decode cX8_next_ 42 = .ok (.istore_n 1, 1) := by decide +kernel
theorem dX8_next__43 : decode cX8_next_ 43 = .ok (.aload_n 0, 1) := by decide +kernel
theorem dX8_next__44 : decode cX8_next_ 44 = .ok (.aload_n 0, 1) := by decide +kernel
theorem dX8_next__45 : decode cX8_next_ 45 = .ok (.getfield 258, 3) := by decide +kernel
theorem dX8_next__48 : decode cX8_next_ 48 = .ok (.putfield 255, 3) := by decide +kernel
theorem dX8_next__51 : decode cX8_next_ 51 = .ok (.aload_n 0, 1) := by decide +kernel
theorem dX8_next__52 : decode cX8_next_ 52 = .ok (.iconst 0, 1) := by decide +kernel
theorem dX8_next__53 : decode cX8_next_ 53 = .ok (.putfield 264, 3) := by decide +kernel
theorem dX8_next__56 : decode cX8_next_ 56 = .ok (.iload_n 1, 1) := by decide +kernel
theorem dX8_next__57 : decode cX8_next_ 57 = .ok (.ifCond .ge 11, 3) := by decide +kernel
theorem dX8_next__60 : decode cX8_next_ 60 = .ok (.aload_n 0, 1) := by decide +kernel
theorem dX8_next__61 : decode cX8_next_ 61 = .ok (.iconst 0, 1) := by decide +kernel
theorem dX8_next__62 : decode cX8_next_ 62 = .ok (.putfield 267, 3) := by decide +kernel
theorem dX8_next__65 : decode cX8_next_ 65 = .ok (.goto 141, 3) := by decide +kernel
theorem dX8_next__68 : decode cX8_next_ 68 = .ok (.iload_n 1, 1) := by decide +kernel
theorem dX8_next__69 : decode cX8_next_ 69 = .ok (.bipush 97, 2) := by decide +kernel
theorem dX8_next__71 : decode cX8_next_ 71 = .ok (.bipush 122, 2) := by decide +kernel
theorem dX8_next__73 : decode cX8_next_ 73 = .ok (.invokestatic 78, 3) := by decide +kernel
theorem dX8_next__76 : decode cX8_next_ 76 = .ok (.ifCond .eq 39, 3) := by decide +kernel
theorem dX8_next__79 : decode cX8_next_ 79 = .ok (.aload_n 0, 1) := by decide +kernel
theorem dX8_next__80 : decode cX8_next_ 80 = .ok (.iconst 1, 1) := by decide +kernel
theorem dX8_next__81 : decode cX8_next_ 81 = .ok (.putfield 267, 3) := by decide +kernel
theorem dX8_next__84 : decode cX8_next_ 84 = .ok (.aload_n 0, 1) := by decide +kernel
theorem dX8_next__85 : decode cX8_next_ 85 = .ok (.aload_n 0, 1) := by decide +kernel
theorem dX8_next__86 : decode cX8_next_ 86 = .ok (.getfield 255, 3) := by decide +kernel
theorem dX8_next__89 : decode cX8_next_ 89 = .ok (.invokevirtual 261, 3) := by decide +kernel
theorem dX8_next__92 : decode cX8_next_ 92 = .ok (.bipush 97, 2) := by decide +kernel
theorem dX8_next__94 : decode cX8_next_ 94 = .ok (.bipush 122, 2) := by decide +kernel
theorem dX8_next__96 : decode cX8_next_ 96 = .ok (.invokestatic 78, 3) := by decide +kernel
theorem dX8_next__99 : decode cX8_next_ 99 = .ok (.ifCond .eq 107, 3) := by decide +kernel
theorem dX8_next__102 : decode cX8_next_ 102 = .ok (.aload_n 0, 1) := by decide +kernel
theorem dX8_next__103 : decode cX8_next_ 103 = .ok (.dup, 1) := by decide +kernel
theorem dX8_next__104 : decode cX8_next_ 104 = .ok (.getfield 255, 3) := by decide +kernel
theorem dX8_next__107 : decode cX8_next_ 107 = .ok (.iconst 1, 1) := by decide +kernel
theorem dX8_next__108 : decode cX8_next_ 108 = .ok (.iadd, 1) := by decide +kernel
theorem dX8_next__109 : decode cX8_next_ 109 = .ok (.putfield 255, 3) := by decide +kernel
theorem dX8_next__112 : decode cX8_next_ 112 = .ok (.goto (-28), 3) := by decide +kernel
theorem dX8_next__115 : decode cX8_next_ 115 = .ok (.iload_n 1, 1) := by decide +kernel
theorem dX8_next__116 : decode cX8_next_ 116 = .ok (.bipush 48, 2) := by decide +kernel
theorem dX8_next__118 : decode cX8_next_ 118 = .ok (.bipush 57, 2) := by decide +kernel
theorem dX8_next__120 : decode cX8_next_ 120 = .ok (.invokestatic 78, 3) := by decide +kernel
theorem dX8_next__123 : decode cX8_next_ 123 = .ok (.ifCond .eq 68, 3) := by decide +kernel
theorem dX8_next__126 : decode cX8_next_ 126 = .ok (.aload_n 0, 1) := by decide +kernel
theorem dX8_next__127 : decode cX8_next_ 127 = .ok (.iconst 2, 1) := by decide +kernel
theorem dX8_next__128 : decode cX8_next_ 128 = .ok (.putfield 267, 3) := by decide +kernel
theorem dX8_next__131 : decode cX8_next_ 131 = .ok (.aload_n 0, 1) := by decide +kernel
theorem dX8_next__132 : decode cX8_next_ 132 = .ok (.aload_n 0, 1) := by decide +kernel
theorem dX8_next__133 : decode cX8_next_ 133 = .ok (.getfield 255, 3) := by decide +kernel
theorem dX8_next__136 : decode cX8_next_ 136 = .ok (.invokevirtual 261, 3) := by decide +kernel
theorem dX8_next__139 : decode cX8_next_ 139 = .ok (.bipush 48, 2) := by decide +kernel
theorem dX8_next__141 : decode cX8_next_ 141 = .ok (.bipush 57, 2) := by decide +kernel
theorem dX8_next__143 : decode cX8_next_ 143 = .ok (.invokestatic 78, 3) := by decide +kernel
theorem dX8_next__146 : decode cX8_next_ 146 = .ok (.ifCond .eq 60, 3) := by decide +kernel
theorem dX8_next__149 : decode cX8_next_ 149 = .ok (.aload_n 0, 1) := by decide +kernel
theorem dX8_next__150 : decode cX8_next_ 150 = .ok (.sipush 10000, 3) := by decide +kernel
theorem dX8_next__153 : decode cX8_next_ 153 = .ok (.bipush 10, 2) := by decide +kernel
theorem dX8_next__155 : decode cX8_next_ 155 = .ok (.aload_n 0, 1) := by decide +kernel
theorem dX8_next__156 : decode cX8_next_ 156 = .ok (.getfield 264, 3) := by decide +kernel
theorem dX8_next__159 : decode cX8_next_ 159 = .ok (.imul, 1) := by decide +kernel
theorem dX8_next__160 : decode cX8_next_ 160 = .ok (.aload_n 0, 1) := by decide +kernel
theorem dX8_next__161 : decode cX8_next_ 161 = .ok (.aload_n 0, 1) := by decide +kernel
theorem dX8_next__162 : decode cX8_next_ 162 = .ok (.getfield 255, 3) := by decide +kernel
theorem dX8_next__165 : decode cX8_next_ 165 = .ok (.invokevirtual 261, 3) := by decide +kernel
theorem dX8_next__168 : decode cX8_next_ 168 = .ok (.iadd, 1) := by decide +kernel
theorem dX8_next__169 : decode cX8_next_ 169 = .ok (.bipush 48, 2) := by decide +kernel
theorem dX8_next__171 : decode cX8_next_ 171 = .ok (.isub, 1) := by decide +kernel
theorem dX8_next__172 : decode cX8_next_ 172 = .ok (.invokestatic 86, 3) := by decide +kernel
theorem dX8_next__175 : decode cX8_next_ 175 = .ok (.putfield 264, 3) := by decide +kernel
theorem dX8_next__178 : decode cX8_next_ 178 = .ok (.aload_n 0, 1) := by decide +kernel
theorem dX8_next__179 : decode cX8_next_ 179 = .ok (.dup, 1) := by decide +kernel
theorem dX8_next__180 : decode cX8_next_ 180 = .ok (.getfield 255, 3) := by decide +kernel
theorem dX8_next__183 : decode cX8_next_ 183 = .ok (.iconst 1, 1) := by decide +kernel
theorem dX8_next__184 : decode cX8_next_ 184 = .ok (.iadd, 1) := by decide +kernel
theorem dX8_next__185 : decode cX8_next_ 185 = .ok (.putfield 255, 3) := by decide +kernel
theorem dX8_next__188 : decode cX8_next_ 188 = .ok (.goto (-57), 3) := by decide +kernel
theorem dX8_next__191 : decode cX8_next_ 191 = .ok (.aload_n 0, 1) := by decide +kernel
theorem dX8_next__192 : decode cX8_next_ 192 = .ok (.iconst 3, 1) := by decide +kernel
theorem dX8_next__193 : decode cX8_next_ 193 = .ok (.putfield 267, 3) := by decide +kernel
theorem dX8_next__196 : decode cX8_next_ 196 = .ok (.aload_n 0, 1) := by decide +kernel
theorem dX8_next__197 : decode cX8_next_ 197 = .ok (.dup, 1) := by decide +kernel
theorem dX8_next__198 : decode cX8_next_ 198 = .ok (.getfield 255, 3) := by decide +kernel
theorem dX8_next__201 : decode cX8_next_ 201 = .ok (.iconst 1, 1) := by decide +kernel
theorem dX8_next__202 : decode cX8_next_ 202 = .ok (.iadd, 1) := by decide +kernel
theorem dX8_next__203 : decode cX8_next_ 203 = .ok (.putfield 255, 3) := by decide +kernel
theorem dX8_next__206 : decode cX8_next_ 206 = .ok (.return_, 1) := by decide +kernel
theorem dX8_isWord_0 : decode cX8_isWord 0 = .ok (.aload_n 0, 1) := by decide +kernel
theorem dX8_isWord_1 : decode cX8_isWord 1 = .ok (.getfield 267, 3) := by decide +kernel
theorem dX8_isWord_4 : decode cX8_isWord 4 = .ok (.iconst 1, 1) := by decide +kernel
theorem dX8_isWord_5 : decode cX8_isWord 5 = .ok (.if_icmp .ne 23, 3) := by decide +kernel
theorem dX8_isWord_8 : decode cX8_isWord 8 = .ok (.aload_n 0, 1) := by decide +kernel
theorem dX8_isWord_9 : decode cX8_isWord 9 = .ok (.getfield 255, 3) := by decide +kernel
theorem dX8_isWord_12 : decode cX8_isWord 12 = .ok (.aload_n 0, 1) := by decide +kernel
theorem dX8_isWord_13 : decode cX8_isWord 13 = .ok (.getfield 258, 3) := by decide +kernel
theorem dX8_isWord_16 : decode cX8_isWord 16 = .ok (.isub, 1) := by decide +kernel
theorem dX8_isWord_17 : decode cX8_isWord 17 = .ok (.aload_n 1, 1) := by decide +kernel
theorem dX8_isWord_18 : decode cX8_isWord 18 = .ok (.invokevirtual 270, 3) := by decide +kernel
theorem dX8_isWord_21 : decode cX8_isWord 21 = .ok (.if_icmp .ne 7, 3) := by decide +kernel
theorem dX8_isWord_24 : decode cX8_isWord 24 = .ok (.iconst 1, 1) := by decide +kernel
theorem dX8_isWord_25 : decode cX8_isWord 25 = .ok (.goto 4, 3) := by decide +kernel
theorem dX8_isWord_28 : decode cX8_isWord 28 = .ok (.iconst 0, 1) := by decide +kernel
theorem dX8_isWord_29 : decode cX8_isWord 29 = .ok (.istore_n 2, 1) := by decide +kernel
theorem dX8_isWord_30 : decode cX8_isWord 30 = .ok (.iconst 0, 1) := by decide +kernel
theorem dX8_isWord_31 : decode cX8_isWord 31 = .ok (.istore_n 3, 1) := by decide +kernel
theorem dX8_isWord_32 : decode cX8_isWord 32 = .ok (.iload_n 3, 1) := by decide +kernel
theorem dX8_isWord_33 : decode cX8_isWord 33 = .ok (.aload_n 1, 1) := by decide +kernel
theorem dX8_isWord_34 : decode cX8_isWord 34 = .ok (.invokevirtual 270, 3) := by decide +kernel
theorem dX8_isWord_37 : decode cX8_isWord 37 = .ok (.if_icmp .ge 38, 3) := by decide +kernel
theorem dX8_isWord_40 : decode cX8_isWord 40 = .ok (.iload_n 2, 1) := by decide +kernel
theorem dX8_isWord_41 : decode cX8_isWord 41 = .ok (.ifCond .eq 34, 3) := by decide +kernel
theorem dX8_isWord_44 : decode cX8_isWord 44 = .ok (.aload_n 0, 1) := by decide +kernel
theorem dX8_isWord_45 : decode cX8_isWord 45 = .ok (.getfield 35, 3) := by decide +kernel
theorem dX8_isWord_48 : decode cX8_isWord 48 = .ok (.aload_n 0, 1) := by decide +kernel
theorem dX8_isWord_49 : decode cX8_isWord 49 = .ok (.getfield 258, 3) := by decide +kernel
theorem dX8_isWord_52 : decode cX8_isWord 52 = .ok (.iload_n 3, 1) := by decide +kernel
theorem dX8_isWord_53 : decode cX8_isWord 53 = .ok (.iadd, 1) := by decide +kernel
theorem dX8_isWord_54 : decode cX8_isWord 54 = .ok (.iaload, 1) := by decide +kernel
theorem dX8_isWord_55 : decode cX8_isWord 55 = .ok (.aload_n 1, 1) := by decide +kernel
theorem dX8_isWord_56 : decode cX8_isWord 56 = .ok (.iload_n 3, 1) := by decide +kernel
theorem dX8_isWord_57 : decode cX8_isWord 57 = .ok (.invokevirtual 273, 3) := by decide +kernel
theorem dX8_isWord_60 : decode cX8_isWord 60 = .ok (.if_icmp .ne 7, 3) := by decide +kernel
theorem dX8_isWord_63 : decode cX8_isWord 63 = .ok (.iconst 1, 1) := by decide +kernel
theorem dX8_isWord_64 : decode cX8_isWord 64 = .ok (.goto 4, 3) := by decide +kernel
theorem dX8_isWord_67 : decode cX8_isWord 67 = .ok (.iconst 0, 1) := by decide +kernel
theorem dX8_isWord_68 : decode cX8_isWord 68 = .ok (.istore_n 2, 1) := by decide +kernel
theorem dX8_isWord_69 : decode cX8_isWord 69 = .ok (.iinc 3 1, 3) := by decide +kernel
theorem dX8_isWord_72 : decode cX8_isWord 72 = .ok (.goto (-40), 3) := by decide +kernel
theorem dX8_isWord_75 : decode cX8_isWord 75 = .ok (.iload_n 2, 1) := by decide +kernel
theorem dX8_isWord_76 : decode cX8_isWord 76 = .ok (.ireturn, 1) := by decide +kernel
theorem dX8_must_0 : decode cX8_must 0 = .ok (.aload_n 0, 1) := by decide +kernel
theorem dX8_must_1 : decode cX8_must 1 = .ok (.aload_n 0, 1) := by decide +kernel
theorem dX8_must_2 : decode cX8_must 2 = .ok (.getfield 277, 3) := by decide +kernel
theorem dX8_must_5 : decode cX8_must 5 = .ok (.ifCond .ne 7, 3) := by decide +kernel
theorem dX8_must_8 : decode cX8_must 8 = .ok (.iload_n 1, 1) := by decide +kernel
theorem dX8_must_9 : decode cX8_must 9 = .ok (.ifCond .ne 7, 3) := by decide +kernel
theorem dX8_must_12 : decode cX8_must 12 = .ok (.iconst 1, 1) := by decide +kernel
theorem dX8_must_13 : decode cX8_must 13 = .ok (.goto 4, 3) := by decide +kernel
theorem dX8_must_16 : decode cX8_must 16 = .ok (.iconst 0, 1) := by decide +kernel
theorem dX8_must_17 : decode cX8_must 17 = .ok (.putfield 277, 3) := by decide +kernel
theorem dX8_must_20 : decode cX8_must 20 = .ok (.aload_n 0, 1) := by decide +kernel
theorem dX8_must_21 : decode cX8_must 21 = .ok (.getfield 277, 3) := by decide +kernel
theorem dX8_must_24 : decode cX8_must 24 = .ok (.ifCond .ne 7, 3) := by decide +kernel
theorem dX8_must_27 : decode cX8_must 27 = .ok (.aload_n 0, 1) := by decide +kernel
theorem dX8_must_28 : decode cX8_must 28 = .ok (.invokevirtual 281, 3) := by decide +kernel
theorem dX8_must_31 : decode cX8_must 31 = .ok (.return_, 1) := by decide +kernel
theorem dX8_number_0 : decode cX8_number 0 = .ok (.aload_n 0, 1) := by decide +kernel
theorem dX8_number_1 : decode cX8_number 1 = .ok (.getfield 264, 3) := by decide +kernel
theorem dX8_number_4 : decode cX8_number 4 = .ok (.istore_n 3, 1) := by decide +kernel
theorem dX8_number_5 : decode cX8_number 5 = .ok (.aload_n 0, 1) := by decide +kernel
theorem dX8_number_6 : decode cX8_number 6 = .ok (.aload_n 0, 1) := by decide +kernel
theorem dX8_number_7 : decode cX8_number 7 = .ok (.getfield 267, 3) := by decide +kernel
theorem dX8_number_10 : decode cX8_number 10 = .ok (.iconst 2, 1) := by decide +kernel
theorem dX8_number_11 : decode cX8_number 11 = .ok (.if_icmp .ne 16, 3) := by decide +kernel
theorem dX8_number_14 : decode cX8_number 14 = .ok (.iload_n 3, 1) := by decide +kernel
theorem dX8_number_15 : decode cX8_number 15 = .ok (.iload_n 1, 1) := by decide +kernel
theorem dX8_number_16 : decode cX8_number 16 = .ok (.iload_n 2, 1) := by decide +kernel
theorem dX8_number_17 : decode cX8_number 17 = .ok (.invokestatic 78, 3) := by decide +kernel
theorem dX8_number_20 : decode cX8_number 20 = .ok (.ifCond .eq 7, 3) := by decide +kernel
theorem dX8_number_23 : decode cX8_number 23 = .ok (.iconst 1, 1) := by decide +kernel
theorem dX8_number_24 : decode cX8_number 24 = .ok (.goto 4, 3) := by decide +kernel
theorem dX8_number_27 : decode cX8_number 27 = .ok (.iconst 0, 1) := by decide +kernel
theorem dX8_number_28 : decode cX8_number 28 = .ok (.invokevirtual 284, 3) := by decide +kernel
theorem dX8_number_31 : decode cX8_number 31 = .ok (.iload_n 3, 1) := by decide +kernel
theorem dX8_number_32 : decode cX8_number 32 = .ok (.ireturn, 1) := by decide +kernel
theorem dX8_row_0 : decode cX8_row 0 = .ok (.iconst 5, 1) := by decide +kernel
theorem dX8_row_1 : decode cX8_row 1 = .ok (.aload_n 0, 1) := by decide +kernel
theorem dX8_row_2 : decode cX8_row 2 = .ok (.getfield 288, 3) := by decide +kernel
theorem dX8_row_5 : decode cX8_row 5 = .ok (.imul, 1) := by decide +kernel
theorem dX8_row_6 : decode cX8_row 6 = .ok (.istore 6, 2) := by decide +kernel
theorem dX8_row_8 : decode cX8_row 8 = .ok (.aload_n 0, 1) := by decide +kernel
theorem dX8_row_9 : decode cX8_row 9 = .ok (.getfield 58, 3) := by decide +kernel
theorem dX8_row_12 : decode cX8_row 12 = .ok (.iload 6, 2) := by decide +kernel
theorem dX8_row_14 : decode cX8_row 14 = .ok (.iload_n 1, 1) := by decide +kernel
theorem dX8_row_15 : decode cX8_row 15 = .ok (.iastore, 1) := by decide +kernel
theorem dX8_row_16 : decode cX8_row 16 = .ok (.aload_n 0, 1) := by decide +kernel
theorem dX8_row_17 : decode cX8_row 17 = .ok (.getfield 58, 3) := by decide +kernel
theorem dX8_row_20 : decode cX8_row 20 = .ok (.iload 6, 2) := by decide +kernel
theorem dX8_row_22 : decode cX8_row 22 = .ok (.iconst 1, 1) := by decide +kernel
theorem dX8_row_23 : decode cX8_row 23 = .ok (.iadd, 1) := by decide +kernel
theorem dX8_row_24 : decode cX8_row 24 = .ok (.iload_n 2, 1) := by decide +kernel
theorem dX8_row_25 : decode cX8_row 25 = .ok (.iastore, 1) := by decide +kernel
theorem dX8_row_26 : decode cX8_row 26 = .ok (.aload_n 0, 1) := by decide +kernel
theorem dX8_row_27 : decode cX8_row 27 = .ok (.getfield 58, 3) := by decide +kernel
theorem dX8_row_30 : decode cX8_row 30 = .ok (.iload 6, 2) := by decide +kernel
theorem dX8_row_32 : decode cX8_row 32 = .ok (.iconst 2, 1) := by decide +kernel
theorem dX8_row_33 : decode cX8_row 33 = .ok (.iadd, 1) := by decide +kernel
theorem dX8_row_34 : decode cX8_row 34 = .ok (.iload_n 3, 1) := by decide +kernel
theorem dX8_row_35 : decode cX8_row 35 = .ok (.iastore, 1) := by decide +kernel
theorem dX8_row_36 : decode cX8_row 36 = .ok (.aload_n 0, 1) := by decide +kernel
theorem dX8_row_37 : decode cX8_row 37 = .ok (.getfield 58, 3) := by decide +kernel
theorem dX8_row_40 : decode cX8_row 40 = .ok (.iload 6, 2) := by decide +kernel
theorem dX8_row_42 : decode cX8_row 42 = .ok (.iconst 3, 1) := by decide +kernel
theorem dX8_row_43 : decode cX8_row 43 = .ok (.iadd, 1) := by decide +kernel
theorem dX8_row_44 : decode cX8_row 44 = .ok (.iload 4, 2) := by decide +kernel
theorem dX8_row_46 : decode cX8_row 46 = .ok (.iastore, 1) := by decide +kernel
theorem dX8_row_47 : decode cX8_row 47 = .ok (.aload_n 0, 1) := by decide +kernel
theorem dX8_row_48 : decode cX8_row 48 = .ok (.getfield 58, 3) := by decide +kernel
theorem dX8_row_51 : decode cX8_row 51 = .ok (.iload 6, 2) := by decide +kernel
theorem dX8_row_53 : decode cX8_row 53 = .ok (.iconst 4, 1) := by decide +kernel
theorem dX8_row_54 : decode cX8_row 54 = .ok (.iadd, 1) := by decide +kernel
theorem dX8_row_55 : decode cX8_row 55 = .ok (.iload 5, 2) := by decide +kernel
theorem dX8_row_57 : decode cX8_row 57 = .ok (.iastore, 1) := by decide +kernel
theorem dX8_row_58 : decode cX8_row 58 = .ok (.aload_n 0, 1) := by decide +kernel
theorem dX8_row_59 : decode cX8_row 59 = .ok (.dup, 1) := by decide +kernel
theorem dX8_row_60 : decode cX8_row 60 = .ok (.getfield 288, 3) := by decide +kernel
theorem dX8_row_63 : decode cX8_row 63 = .ok (.iconst 1, 1) := by decide +kernel
theorem dX8_row_64 : decode cX8_row 64 = .ok (.iadd, 1) := by decide +kernel
theorem dX8_row_65 : decode cX8_row 65 = .ok (.putfield 288, 3) := by decide +kernel
theorem dX8_row_68 : decode cX8_row 68 = .ok (.return_, 1) := by decide +kernel
theorem dX8_kindTold_0 : decode cX8_kindTold 0 = .ok (.iconst (-1), 1) := by decide +kernel
theorem dX8_kindTold_1 : decode cX8_kindTold 1 = .ok (.istore_n 1, 1) := by decide +kernel
theorem dX8_kindTold_2 : decode cX8_kindTold 2 = .ok (.iconst 0, 1) := by decide +kernel
theorem dX8_kindTold_3 : decode cX8_kindTold 3 = .ok (.istore_n 2, 1) := by decide +kernel
theorem dX8_kindTold_4 : decode cX8_kindTold 4 = .ok (.iload_n 2, 1) := by decide +kernel
theorem dX8_kindTold_5 : decode cX8_kindTold 5 = .ok (.aload_n 0, 1) := by decide +kernel
theorem dX8_kindTold_6 : decode cX8_kindTold 6 = .ok (.getfield 54, 3) := by decide +kernel
theorem dX8_kindTold_9 : decode cX8_kindTold 9 = .ok (.arraylength, 1) := by decide +kernel
theorem dX8_kindTold_10 : decode cX8_kindTold 10 = .ok (.if_icmp .ge 28, 3) := by decide +kernel
theorem dX8_kindTold_13 : decode cX8_kindTold 13 = .ok (.aload_n 0, 1) := by decide +kernel
theorem dX8_kindTold_14 : decode cX8_kindTold 14 = .ok (.aload_n 0, 1) := by decide +kernel
theorem dX8_kindTold_15 : decode cX8_kindTold 15 = .ok (.getfield 54, 3) := by decide +kernel
theorem dX8_kindTold_18 : decode cX8_kindTold 18 = .ok (.iload_n 2, 1) := by decide +kernel
theorem dX8_kindTold_19 : decode cX8_kindTold 19 = .ok (.aaload, 1) := by decide +kernel
theorem dX8_kindTold_20 : decode cX8_kindTold 20 = .ok (.invokevirtual 291, 3) := by decide +kernel
theorem dX8_kindTold_23 : decode cX8_kindTold 23 = .ok (.ifCond .eq 7, 3) := by decide +kernel
theorem dX8_kindTold_26 : decode cX8_kindTold 26 = .ok (.iload_n 2, 1) := by decide +kernel
theorem dX8_kindTold_27 : decode cX8_kindTold 27 = .ok (.goto 4, 3) := by decide +kernel
theorem dX8_kindTold_30 : decode cX8_kindTold 30 = .ok (.iload_n 1, 1) := by decide +kernel
theorem dX8_kindTold_31 : decode cX8_kindTold 31 = .ok (.istore_n 1, 1) := by decide +kernel
theorem dX8_kindTold_32 : decode cX8_kindTold 32 = .ok (.iinc 2 1, 3) := by decide +kernel
theorem dX8_kindTold_35 : decode cX8_kindTold 35 = .ok (.goto (-31), 3) := by decide +kernel
theorem dX8_kindTold_38 : decode cX8_kindTold 38 = .ok (.iload_n 1, 1) := by decide +kernel
theorem dX8_kindTold_39 : decode cX8_kindTold 39 = .ok (.ireturn, 1) := by decide +kernel
theorem dX8_isNext_0 : decode cX8_isNext 0 = .ok (.aload_n 0, 1) := by decide +kernel
theorem dX8_isNext_1 : decode cX8_isNext 1 = .ok (.getfield 277, 3) := by decide +kernel
theorem dX8_isNext_4 : decode cX8_isNext 4 = .ok (.ifCond .ne 15, 3) := by decide +kernel
theorem dX8_isNext_7 : decode cX8_isNext 7 = .ok (.aload_n 0, 1) := by decide +kernel
theorem dX8_isNext_8 : decode cX8_isNext 8 = .ok (.aload_n 1, 1) := by decide +kernel
theorem dX8_isNext_9 : decode cX8_isNext 9 = .ok (.invokevirtual 291, 3) := by decide +kernel
theorem dX8_isNext_12 : decode cX8_isNext 12 = .ok (.ifCond .eq 7, 3) := by decide +kernel
theorem dX8_isNext_15 : decode cX8_isNext 15 = .ok (.iconst 1, 1) := by decide +kernel
theorem dX8_isNext_16 : decode cX8_isNext 16 = .ok (.goto 4, 3) := by decide +kernel
theorem dX8_isNext_19 : decode cX8_isNext 19 = .ok (.iconst 0, 1) := by decide +kernel
theorem dX8_isNext_20 : decode cX8_isNext 20 = .ok (.istore_n 2, 1) := by decide +kernel
theorem dX8_isNext_21 : decode cX8_isNext 21 = .ok (.iload_n 2, 1) := by decide +kernel
theorem dX8_isNext_22 : decode cX8_isNext 22 = .ok (.ifCond .eq 8, 3) := by decide +kernel
theorem dX8_isNext_25 : decode cX8_isNext 25 = .ok (.aload_n 0, 1) := by decide +kernel
theorem dX8_isNext_26 : decode cX8_isNext 26 = .ok (.iconst 1, 1) := by decide +kernel
theorem dX8_isNext_27 : decode cX8_isNext 27 = .ok (.invokevirtual 284, 3) := by decide +kernel
theorem dX8_isNext_30 : decode cX8_isNext 30 = .ok (.iload_n 2, 1) := by decide +kernel
theorem dX8_isNext_31 : decode cX8_isNext 31 = .ok (.ireturn, 1) := by decide +kernel
theorem dX8_readItem_0 : decode cX8_readItem 0 = .ok (.aload_n 0, 1) := by decide +kernel
theorem dX8_readItem_1 : decode cX8_readItem 1 = .ok (.invokevirtual 295, 3) := by decide +kernel
theorem dX8_readItem_4 : decode cX8_readItem 4 = .ok (.istore_n 1, 1) := by decide +kernel
theorem dX8_readItem_5 : decode cX8_readItem 5 = .ok (.aload_n 0, 1) := by decide +kernel
theorem dX8_readItem_6 : decode cX8_readItem 6 = .ok (.dup, 1) := by decide +kernel
theorem dX8_readItem_7 : decode cX8_readItem 7 = .ok (.getfield 298, 3) := by decide +kernel
theorem dX8_readItem_10 : decode cX8_readItem 10 = .ok (.iconst 1, 1) := by decide +kernel
theorem dX8_readItem_11 : decode cX8_readItem 11 = .ok (.iadd, 1) := by decide +kernel
theorem dX8_readItem_12 : decode cX8_readItem 12 = .ok (.putfield 298, 3) := by decide +kernel
theorem dX8_readItem_15 : decode cX8_readItem 15 = .ok (.iload_n 1, 1) := by decide +kernel
theorem dX8_readItem_16 : decode cX8_readItem 16 = .ok (.ifCond .lt 130, 3) := by decide +kernel
theorem dX8_readItem_19 : decode cX8_readItem 19 = .ok (.aload_n 0, 1) := by decide +kernel
theorem dX8_readItem_20 : decode cX8_readItem 20 = .ok (.aload_n 0, 1) := by decide +kernel
theorem dX8_readItem_21 : decode cX8_readItem 21 = .ok (.getfield 301, 3) := by decide +kernel
theorem dX8_readItem_24 : decode cX8_readItem 24 = .ok (.bipush 14, 2) := by decide +kernel
theorem dX8_readItem_26 : decode cX8_readItem 26 = .ok (.if_icmp .ge 7, 3) := by decide +kernel
theorem dX8_readItem_29 : decode cX8_readItem 29 = .ok (.iconst 1, 1) := by decide +kernel
theorem dX8_readItem_30 : decode cX8_readItem 30 = .ok (.goto 4, 3) := by decide +kernel
theorem dX8_readItem_33 : decode cX8_readItem 33 = .ok (.iconst 0, 1) := by decide +kernel
theorem dX8_readItem_34 : decode cX8_readItem 34 = .ok (.invokevirtual 284, 3) := by decide +kernel
theorem dX8_readItem_37 : decode cX8_readItem 37 = .ok (.aload_n 0, 1) := by decide +kernel
theorem dX8_readItem_38 : decode cX8_readItem 38 = .ok (.dup, 1) := by decide +kernel
theorem dX8_readItem_39 : decode cX8_readItem 39 = .ok (.getfield 301, 3) := by decide +kernel
theorem dX8_readItem_42 : decode cX8_readItem 42 = .ok (.iconst 1, 1) := by decide +kernel
theorem dX8_readItem_43 : decode cX8_readItem 43 = .ok (.iadd, 1) := by decide +kernel
theorem dX8_readItem_44 : decode cX8_readItem 44 = .ok (.putfield 301, 3) := by decide +kernel
theorem dX8_readItem_47 : decode cX8_readItem 47 = .ok (.aload_n 0, 1) := by decide +kernel
theorem dX8_readItem_48 : decode cX8_readItem 48 = .ok (.iconst 0, 1) := by decide +kernel
theorem dX8_readItem_49 : decode cX8_readItem 49 = .ok (.bipush 7, 2) := by decide +kernel
theorem dX8_readItem_51 : decode cX8_readItem 51 = .ok (.invokevirtual 304, 3) := by decide +kernel
theorem dX8_readItem_54 : decode cX8_readItem 54 = .ok (.istore_n 2, 1) := by decide +kernel
theorem dX8_readItem_55 : decode cX8_readItem 55 = .ok (.aload_n 0, 1) := by decide +kernel
theorem dX8_readItem_56 : decode cX8_readItem 56 = .ok (.getfield 264, 3) := by decide +kernel
theorem dX8_readItem_59 : decode cX8_readItem 59 = .ok (.istore_n 3, 1) := by decide +kernel
theorem dX8_readItem_60 : decode cX8_readItem 60 = .ok (.aload_n 0, 1) := by decide +kernel
theorem dX8_readItem_61 : decode cX8_readItem 61 = .ok (.aload_n 0, 1) := by decide +kernel
theorem dX8_readItem_62 : decode cX8_readItem 62 = .ok (.getfield 277, 3) := by decide +kernel
theorem dX8_readItem_65 : decode cX8_readItem 65 = .ok (.ifCond .ne 27, 3) := by decide +kernel
theorem dX8_readItem_68 : decode cX8_readItem 68 = .ok (.aload_n 0, 1) := by decide +kernel
theorem dX8_readItem_69 : decode cX8_readItem 69 = .ok (.getfield 267, 3) := by decide +kernel
theorem dX8_readItem_72 : decode cX8_readItem 72 = .ok (.iconst 2, 1) := by decide +kernel
theorem dX8_readItem_73 : decode cX8_readItem 73 = .ok (.if_icmp .ne 19, 3) := by decide +kernel
theorem dX8_readItem_76 : decode cX8_readItem 76 = .ok (.iload_n 3, 1) := by decide +kernel
theorem dX8_readItem_77 : decode cX8_readItem 77 = .ok (.invokestatic 98, 3) := by decide +kernel
theorem dX8_readItem_80 : decode cX8_readItem 80 = .ok (.ifCond .eq 12, 3) := by decide +kernel
theorem dX8_readItem_83 : decode cX8_readItem 83 = .ok (.iload_n 3, 1) := by decide +kernel
theorem dX8_readItem_84 : decode cX8_readItem 84 = .ok (.iload_n 2, 1) := by decide +kernel
theorem dX8_readItem_85 : decode cX8_readItem 85 = .ok (.if_icmp .eq 7, 3) := by decide +kernel
theorem dX8_readItem_88 : decode cX8_readItem 88 = .ok (.iconst 1, 1) := by decide +kernel
theorem dX8_readItem_89 : decode cX8_readItem 89 = .ok (.goto 4, 3) := by decide +kernel
theorem dX8_readItem_92 : decode cX8_readItem 92 = .ok (.iconst 0, 1) := by decide +kernel
theorem dX8_readItem_93 : decode cX8_readItem 93 = .ok (.invokevirtual 284, 3) := by decide +kernel
theorem dX8_readItem_96 : decode cX8_readItem 96 = .ok (.aload_n 0, 1) := by decide +kernel
theorem dX8_readItem_97 : decode cX8_readItem 97 = .ok (.ldc_w 307, 3) := by decide +kernel
theorem dX8_readItem_100 : decode cX8_readItem 100 = .ok (.invokevirtual 309, 3) := by decide +kernel
theorem dX8_readItem_103 : decode cX8_readItem 103 = .ok (.ifCond .eq 13, 3) := by decide +kernel
theorem dX8_readItem_106 : decode cX8_readItem 106 = .ok (.aload_n 0, 1) := by decide +kernel
theorem dX8_readItem_107 : decode cX8_readItem 107 = .ok (.iconst 1, 1) := by decide +kernel
theorem dX8_readItem_108 : decode cX8_readItem 108 = .ok (.bipush 20, 2) := by decide +kernel
theorem dX8_readItem_110 : decode cX8_readItem 110 = .ok (.invokevirtual 304, 3) := by decide +kernel
theorem dX8_readItem_113 : decode cX8_readItem 113 = .ok (.goto 4, 3) := by decide +kernel
theorem dX8_readItem_116 : decode cX8_readItem 116 = .ok (.iconst 5, 1) := by decide +kernel
theorem dX8_readItem_117 : decode cX8_readItem 117 = .ok (.istore 4, 2) := by decide +kernel
theorem dX8_readItem_119 : decode cX8_readItem 119 = .ok (.aload_n 0, 1) := by decide +kernel
theorem dX8_readItem_120 : decode cX8_readItem 120 = .ok (.iload_n 1, 1) := by decide +kernel
theorem dX8_readItem_121 : decode cX8_readItem 121 = .ok (.iload_n 2, 1) := by decide +kernel
theorem dX8_readItem_122 : decode cX8_readItem 122 = .ok (.iload_n 3, 1) := by decide +kernel
theorem dX8_readItem_123 : decode cX8_readItem 123 = .ok (.iload 4, 2) := by decide +kernel
theorem dX8_readItem_125 : decode cX8_readItem 125 = .ok (.aload_n 0, 1) := by decide +kernel
theorem dX8_readItem_126 : decode cX8_readItem 126 = .ok (.ldc_w 312, 3) := by decide +kernel
theorem dX8_readItem_129 : decode cX8_readItem 129 = .ok (.invokevirtual 309, 3) := by decide +kernel
theorem dX8_readItem_132 : decode cX8_readItem 132 = .ok (.ifCond .eq 7, 3) := by decide +kernel
theorem dX8_readItem_135 : decode cX8_readItem 135 = .ok (.iconst 1, 1) := by decide +kernel
theorem dX8_readItem_136 : decode cX8_readItem 136 = .ok (.goto 4, 3) := by decide +kernel
theorem dX8_readItem_139 : decode cX8_readItem 139 = .ok (.iconst 0, 1) := by decide +kernel
theorem dX8_readItem_140 : decode cX8_readItem 140 = .ok (.invokevirtual 314, 3) := by decide +kernel
theorem dX8_readItem_143 : decode cX8_readItem 143 = .ok (.goto 161, 3) := by decide +kernel
theorem dX8_readItem_146 : decode cX8_readItem 146 = .ok (.aload_n 0, 1) := by decide +kernel
theorem dX8_readItem_147 : decode cX8_readItem 147 = .ok (.ldc_w 318, 3) := by decide +kernel
theorem dX8_readItem_150 : decode cX8_readItem 150 = .ok (.invokevirtual 309, 3) := by decide +kernel
theorem dX8_readItem_153 : decode cX8_readItem 153 = .ok (.ifCond .eq 66, 3) := by decide +kernel
theorem dX8_readItem_156 : decode cX8_readItem 156 = .ok (.aload_n 0, 1) := by decide +kernel
theorem dX8_readItem_157 : decode cX8_readItem 157 = .ok (.iconst 0, 1) := by decide +kernel
theorem dX8_readItem_158 : decode cX8_readItem 158 = .ok (.bipush 11, 2) := by decide +kernel
theorem dX8_readItem_160 : decode cX8_readItem 160 = .ok (.invokevirtual 304, 3) := by decide +kernel
theorem dX8_readItem_163 : decode cX8_readItem 163 = .ok (.istore_n 2, 1) := by decide +kernel
theorem dX8_readItem_164 : decode cX8_readItem 164 = .ok (.aload_n 0, 1) := by decide +kernel
theorem dX8_readItem_165 : decode cX8_readItem 165 = .ok (.ldc_w 320, 3) := by decide +kernel
theorem dX8_readItem_168 : decode cX8_readItem 168 = .ok (.invokevirtual 309, 3) := by decide +kernel
theorem dX8_readItem_171 : decode cX8_readItem 171 = .ok (.ifCond .eq 19, 3) := by decide +kernel
theorem dX8_readItem_174 : decode cX8_readItem 174 = .ok (.aload_n 0, 1) := by decide +kernel
theorem dX8_readItem_175 : decode cX8_readItem 175 = .ok (.bipush 10, 2) := by decide +kernel
theorem dX8_readItem_177 : decode cX8_readItem 177 = .ok (.iload_n 2, 1) := by decide +kernel
theorem dX8_readItem_178 : decode cX8_readItem 178 = .ok (.aload_n 0, 1) := by decide +kernel
theorem dX8_readItem_179 : decode cX8_readItem 179 = .ok (.iconst 0, 1) := by decide +kernel
theorem dX8_readItem_180 : decode cX8_readItem 180 = .ok (.bipush 9, 2) := by decide +kernel
theorem dX8_readItem_182 : decode cX8_readItem 182 = .ok (.invokevirtual 304, 3) := by decide +kernel
theorem dX8_readItem_185 : decode cX8_readItem 185 = .ok (.iconst 0, 1) := by decide +kernel
theorem dX8_readItem_186 : decode cX8_readItem 186 = .ok (.iconst 0, 1) := by decide +kernel
theorem dX8_readItem_187 : decode cX8_readItem 187 = .ok (.invokevirtual 314, 3) := by decide +kernel
theorem dX8_readItem_190 : decode cX8_readItem 190 = .ok (.aload_n 0, 1) := by decide +kernel
theorem dX8_readItem_191 : decode cX8_readItem 191 = .ok (.ldc_w 322, 3) := by decide +kernel
theorem dX8_readItem_194 : decode cX8_readItem 194 = .ok (.invokevirtual 309, 3) := by decide +kernel
theorem dX8_readItem_197 : decode cX8_readItem 197 = .ok (.ifCond .eq 19, 3) := by decide +kernel
theorem dX8_readItem_200 : decode cX8_readItem 200 = .ok (.aload_n 0, 1) := by decide +kernel
theorem dX8_readItem_201 : decode cX8_readItem 201 = .ok (.bipush 11, 2) := by decide +kernel
theorem dX8_readItem_203 : decode cX8_readItem 203 = .ok (.iload_n 2, 1) := by decide +kernel
theorem dX8_readItem_204 : decode cX8_readItem 204 = .ok (.aload_n 0, 1) := by decide +kernel
theorem dX8_readItem_205 : decode cX8_readItem 205 = .ok (.iconst 0, 1) := by decide +kernel
theorem dX8_readItem_206 : decode cX8_readItem 206 = .ok (.bipush 9, 2) := by decide +kernel
theorem dX8_readItem_208 : decode cX8_readItem 208 = .ok (.invokevirtual 304, 3) := by decide +kernel
theorem dX8_readItem_211 : decode cX8_readItem 211 = .ok (.iconst 0, 1) := by decide +kernel
theorem dX8_readItem_212 : decode cX8_readItem 212 = .ok (.iconst 0, 1) := by decide +kernel
theorem dX8_readItem_213 : decode cX8_readItem 213 = .ok (.invokevirtual 314, 3) := by decide +kernel
theorem dX8_readItem_216 : decode cX8_readItem 216 = .ok (.goto 88, 3) := by decide +kernel
theorem dX8_readItem_219 : decode cX8_readItem 219 = .ok (.aload_n 0, 1) := by decide +kernel
theorem dX8_readItem_220 : decode cX8_readItem 220 = .ok (.ldc_w 324, 3) := by decide +kernel
theorem dX8_readItem_223 : decode cX8_readItem 223 = .ok (.invokevirtual 309, 3) := by decide +kernel
theorem dX8_readItem_226 : decode cX8_readItem 226 = .ok (.ifCond .eq 29, 3) := by decide +kernel
theorem dX8_readItem_229 : decode cX8_readItem 229 = .ok (.aload_n 0, 1) := by decide +kernel
theorem dX8_readItem_230 : decode cX8_readItem 230 = .ok (.iconst 0, 1) := by decide +kernel
theorem dX8_readItem_231 : decode cX8_readItem 231 = .ok (.bipush 7, 2) := by decide +kernel
theorem dX8_readItem_233 : decode cX8_readItem 233 = .ok (.invokevirtual 304, 3) := by decide +kernel
theorem dX8_readItem_236 : decode cX8_readItem 236 = .ok (.istore_n 2, 1) := by decide +kernel
theorem dX8_readItem_237 : decode cX8_readItem 237 = .ok (.aload_n 0, 1) := by decide +kernel
theorem dX8_readItem_238 : decode cX8_readItem 238 = .ok (.bipush 12, 2) := by decide +kernel
theorem dX8_readItem_240 : decode cX8_readItem 240 = .ok (.iload_n 2, 1) := by decide +kernel
theorem dX8_readItem_241 : decode cX8_readItem 241 = .ok (.aload_n 0, 1) := by decide +kernel
theorem dX8_readItem_242 : decode cX8_readItem 242 = .ok (.iconst 0, 1) := by decide +kernel
theorem dX8_readItem_243 : decode cX8_readItem 243 = .ok (.iconst 3, 1) := by decide +kernel
theorem dX8_readItem_244 : decode cX8_readItem 244 = .ok (.invokevirtual 304, 3) := by decide +kernel
theorem dX8_readItem_247 : decode cX8_readItem 247 = .ok (.iconst 0, 1) := by decide +kernel
theorem dX8_readItem_248 : decode cX8_readItem 248 = .ok (.iconst 0, 1) := by decide +kernel
theorem dX8_readItem_249 : decode cX8_readItem 249 = .ok (.invokevirtual 314, 3) := by decide +kernel
