/-! links and layout -/
theorem kF_0_9 : am_lkF 0 9 = some (0, 0) := by decide +kernel
theorem kF_0_15 : am_lkF 0 15 = some (0, 1) := by decide +kernel
theorem kF_0_22 : am_lkF 0 22 = some (0, 2) := by decide +kernel
theorem kF_0_26 : am_lkF 0 26 = some (0, 3) := by decide +kernel
theorem kF_0_29 : am_lkF 0 29 = some (0, 4) := by decide +kernel
theorem kF_0_32 : am_lkF 0 32 = some (0, 5) := by decide +kernel
theorem kF_0_35 : am_lkF 0 35 = some (0, 6) := by decide +kernel
theorem kF_0_38 : am_lkF 0 38 = some (0, 7) := by decide +kernel
theorem kF_0_106 : am_lkF 0 106 = some (6, 3) := by decide +kernel
theorem kF_0_114 : am_lkF 0 114 = some (6, 4) := by decide +kernel
theorem kF_0_116 : am_lkF 0 116 = some (6, 2) := by decide +kernel
theorem kF_1_9 : am_lkF 1 9 = some (1, 0) := by decide +kernel
theorem kF_1_15 : am_lkF 1 15 = some (1, 1) := by decide +kernel
theorem kF_1_19 : am_lkF 1 19 = some (1, 2) := by decide +kernel
theorem kF_1_22 : am_lkF 1 22 = some (1, 3) := by decide +kernel
theorem kF_1_25 : am_lkF 1 25 = some (1, 4) := by decide +kernel
theorem kF_1_28 : am_lkF 1 28 = some (1, 5) := by decide +kernel
theorem kF_2_12 : am_lkF 2 12 = some (2, 0) := by decide +kernel
theorem kF_2_21 : am_lkF 2 21 = some (2, 1) := by decide +kernel
theorem kF_2_25 : am_lkF 2 25 = some (2, 2) := by decide +kernel
theorem kF_2_29 : am_lkF 2 29 = some (2, 3) := by decide +kernel
theorem kF_2_47 : am_lkF 2 47 = some (1, 2) := by decide +kernel
theorem kF_2_67 : am_lkF 2 67 = some (1, 3) := by decide +kernel
theorem kF_2_70 : am_lkF 2 70 = some (6, 0) := by decide +kernel
theorem kF_2_79 : am_lkF 2 79 = some (1, 1) := by decide +kernel
theorem kF_2_89 : am_lkF 2 89 = some (1, 0) := by decide +kernel
theorem kF_2_92 : am_lkF 2 92 = some (1, 4) := by decide +kernel
theorem kF_2_95 : am_lkF 2 95 = some (6, 2) := by decide +kernel
theorem kF_3_9 : am_lkF 3 9 = some (3, 0) := by decide +kernel
theorem kF_3_15 : am_lkF 3 15 = some (3, 1) := by decide +kernel
theorem kF_3_18 : am_lkF 3 18 = some (3, 2) := by decide +kernel
theorem kF_3_21 : am_lkF 3 21 = some (3, 3) := by decide +kernel
theorem kF_3_24 : am_lkF 3 24 = some (3, 4) := by decide +kernel
theorem kF_3_28 : am_lkF 3 28 = some (3, 5) := by decide +kernel
theorem kF_3_31 : am_lkF 3 31 = some (3, 6) := by decide +kernel
theorem kF_3_34 : am_lkF 3 34 = some (3, 7) := by decide +kernel
theorem kF_3_37 : am_lkF 3 37 = some (3, 8) := by decide +kernel
theorem kF_3_40 : am_lkF 3 40 = some (3, 9) := by decide +kernel
theorem kF_3_43 : am_lkF 3 43 = some (3, 10) := by decide +kernel
theorem kF_3_46 : am_lkF 3 46 = some (3, 11) := by decide +kernel
theorem kF_3_49 : am_lkF 3 49 = some (3, 12) := by decide +kernel
theorem kF_3_52 : am_lkF 3 52 = some (3, 13) := by decide +kernel
theorem kF_3_55 : am_lkF 3 55 = some (3, 14) := by decide +kernel
theorem kF_3_58 : am_lkF 3 58 = some (3, 15) := by decide +kernel
theorem kF_3_61 : am_lkF 3 61 = some (3, 16) := by decide +kernel
theorem kF_3_70 : am_lkF 3 70 = some (6, 1) := by decide +kernel
theorem kF_3_75 : am_lkF 3 75 = some (6, 0) := by decide +kernel
theorem kF_3_88 : am_lkF 3 88 = some (5, 1) := by decide +kernel
theorem kF_3_91 : am_lkF 3 91 = some (5, 2) := by decide +kernel
theorem kF_3_94 : am_lkF 3 94 = some (6, 2) := by decide +kernel
theorem kF_3_104 : am_lkF 3 104 = some (1, 2) := by decide +kernel
theorem kF_3_113 : am_lkF 3 113 = some (1, 4) := by decide +kernel
theorem kF_4_9 : am_lkF 4 9 = some (4, 0) := by decide +kernel
theorem kF_4_15 : am_lkF 4 15 = some (4, 1) := by decide +kernel
theorem kF_4_18 : am_lkF 4 18 = some (4, 2) := by decide +kernel
theorem kF_5_9 : am_lkF 5 9 = some (5, 0) := by decide +kernel
theorem kF_5_15 : am_lkF 5 15 = some (5, 1) := by decide +kernel
theorem kF_5_18 : am_lkF 5 18 = some (5, 2) := by decide +kernel
theorem kF_5_21 : am_lkF 5 21 = some (5, 3) := by decide +kernel
theorem kF_5_24 : am_lkF 5 24 = some (5, 4) := by decide +kernel
theorem kF_6_11 : am_lkF 6 11 = some (6, 0) := by decide +kernel
theorem kF_6_17 : am_lkF 6 17 = some (6, 1) := by decide +kernel
theorem kF_6_21 : am_lkF 6 21 = some (6, 2) := by decide +kernel
theorem kF_6_25 : am_lkF 6 25 = some (6, 3) := by decide +kernel
theorem kF_6_28 : am_lkF 6 28 = some (6, 4) := by decide +kernel
theorem kF_6_31 : am_lkF 6 31 = some (6, 5) := by decide +kernel
theorem kF_6_53 : am_lkF 6 53 = some (5, 0) := by decide +kernel
theorem kF_6_56 : am_lkF 6 56 = some (5, 1) := by decide +kernel
theorem kF_6_59 : am_lkF 6 59 = some (5, 2) := by decide +kernel
theorem kF_6_62 : am_lkF 6 62 = some (5, 3) := by decide +kernel
theorem kF_6_65 : am_lkF 6 65 = some (5, 4) := by decide +kernel
theorem kF_7_10 : am_lkF 7 10 = some (7, 0) := by decide +kernel
theorem kF_7_16 : am_lkF 7 16 = some (7, 1) := by decide +kernel
theorem kF_7_19 : am_lkF 7 19 = some (7, 2) := by decide +kernel
theorem kF_7_26 : am_lkF 7 26 = some (7, 3) := by decide +kernel
theorem kF_7_33 : am_lkF 7 33 = some (7, 4) := by decide +kernel
theorem kF_7_40 : am_lkF 7 40 = some (7, 5) := by decide +kernel
theorem kF_7_46 : am_lkF 7 46 = some (7, 6) := by decide +kernel
theorem kF_7_50 : am_lkF 7 50 = some (7, 7) := by decide +kernel
theorem kF_7_70 : am_lkF 7 70 = some (2, 0) := by decide +kernel
theorem kF_7_84 : am_lkF 7 84 = some (6, 0) := by decide +kernel
theorem kF_7_88 : am_lkF 7 88 = some (5, 0) := by decide +kernel
theorem kF_7_94 : am_lkF 7 94 = some (5, 1) := by decide +kernel
theorem kF_7_97 : am_lkF 7 97 = some (5, 2) := by decide +kernel
theorem kF_7_109 : am_lkF 7 109 = some (5, 3) := by decide +kernel
theorem kF_7_112 : am_lkF 7 112 = some (5, 4) := by decide +kernel
theorem kF_7_122 : am_lkF 7 122 = some (6, 2) := by decide +kernel
theorem kF_7_129 : am_lkF 7 129 = some (6, 3) := by decide +kernel
theorem kF_7_132 : am_lkF 7 132 = some (6, 4) := by decide +kernel
theorem kF_7_135 : am_lkF 7 135 = some (2, 1) := by decide +kernel
theorem kF_7_139 : am_lkF 7 139 = some (1, 1) := by decide +kernel
theorem kF_7_154 : am_lkF 7 154 = some (1, 0) := by decide +kernel
theorem kF_7_160 : am_lkF 7 160 = some (1, 2) := by decide +kernel
theorem kF_7_163 : am_lkF 7 163 = some (1, 3) := by decide +kernel
theorem kF_7_166 : am_lkF 7 166 = some (1, 4) := by decide +kernel
theorem kF_7_169 : am_lkF 7 169 = some (1, 5) := by decide +kernel
theorem kF_7_193 : am_lkF 7 193 = some (3, 13) := by decide +kernel
theorem kF_7_196 : am_lkF 7 196 = some (3, 16) := by decide +kernel
theorem kF_7_199 : am_lkF 7 199 = some (3, 15) := by decide +kernel
theorem kF_7_202 : am_lkF 7 202 = some (3, 14) := by decide +kernel
theorem kF_7_209 : am_lkF 7 209 = some (3, 12) := by decide +kernel
theorem kF_7_231 : am_lkF 7 231 = some (6, 1) := by decide +kernel
theorem kF_7_251 : am_lkF 7 251 = some (2, 3) := by decide +kernel
theorem kF_7_254 : am_lkF 7 254 = some (0, 1) := by decide +kernel
theorem kF_7_258 : am_lkF 7 258 = some (0, 2) := by decide +kernel
theorem kF_7_259 : am_lkF 7 259 = some (0, 3) := by decide +kernel
theorem kF_7_263 : am_lkF 7 263 = some (2, 2) := by decide +kernel
theorem kF_7_274 : am_lkF 7 274 = some (4, 1) := by decide +kernel
theorem kF_7_281 : am_lkF 7 281 = some (4, 0) := by decide +kernel
theorem kF_7_287 : am_lkF 7 287 = some (4, 2) := by decide +kernel
theorem kF_8_9 : am_lkF 8 9 = some (8, 0) := by decide +kernel
theorem kF_8_13 : am_lkF 8 13 = some (8, 1) := by decide +kernel
theorem kF_8_16 : am_lkF 8 16 = some (8, 2) := by decide +kernel
theorem kF_8_19 : am_lkF 8 19 = some (8, 4) := by decide +kernel
theorem kF_8_22 : am_lkF 8 22 = some (8, 5) := by decide +kernel
theorem kF_8_26 : am_lkF 8 26 = some (8, 6) := by decide +kernel
theorem kF_8_29 : am_lkF 8 29 = some (8, 7) := by decide +kernel
theorem kF_8_32 : am_lkF 8 32 = some (8, 8) := by decide +kernel
theorem kF_8_35 : am_lkF 8 35 = some (8, 15) := by decide +kernel
theorem kF_8_54 : am_lkF 8 54 = some (8, 22) := by decide +kernel
theorem kF_8_58 : am_lkF 8 58 = some (8, 23) := by decide +kernel
theorem kF_8_61 : am_lkF 8 61 = some (8, 27) := by decide +kernel
theorem kF_8_64 : am_lkF 8 64 = some (8, 28) := by decide +kernel
theorem kF_8_67 : am_lkF 8 67 = some (8, 29) := by decide +kernel
theorem kF_8_70 : am_lkF 8 70 = some (8, 30) := by decide +kernel
theorem kF_8_170 : am_lkF 8 170 = some (8, 11) := by decide +kernel
theorem kF_8_173 : am_lkF 8 173 = some (8, 12) := by decide +kernel
theorem kF_8_176 : am_lkF 8 176 = some (8, 10) := by decide +kernel
theorem kF_8_179 : am_lkF 8 179 = some (8, 9) := by decide +kernel
theorem kF_8_223 : am_lkF 8 223 = some (8, 14) := by decide +kernel
theorem kF_8_226 : am_lkF 8 226 = some (8, 13) := by decide +kernel
theorem kF_8_252 : am_lkF 8 252 = some (8, 16) := by decide +kernel
theorem kF_8_255 : am_lkF 8 255 = some (8, 18) := by decide +kernel
theorem kF_8_258 : am_lkF 8 258 = some (8, 17) := by decide +kernel
theorem kF_8_264 : am_lkF 8 264 = some (8, 20) := by decide +kernel
theorem kF_8_267 : am_lkF 8 267 = some (8, 19) := by decide +kernel
theorem kF_8_277 : am_lkF 8 277 = some (8, 21) := by decide +kernel
theorem kF_8_288 : am_lkF 8 288 = some (8, 24) := by decide +kernel
theorem kF_8_298 : am_lkF 8 298 = some (8, 25) := by decide +kernel
theorem kF_8_301 : am_lkF 8 301 = some (8, 26) := by decide +kernel
theorem kF_8_351 : am_lkF 8 351 = some (8, 3) := by decide +kernel
theorem kM_0_21 : am_lkM 0 21 = some (mX6_init, 0, 2) := rfl
theorem kM_0_41 : am_lkM 0 41 = some (mX0_advance, 0, 0) := rfl
theorem kM_0_44 : am_lkM 0 44 = some (mX0_readItem, 0, 0) := rfl
theorem kM_0_48 : am_lkM 0 48 = some (mX0_byteAt, 1, 0) := rfl
theorem kM_0_52 : am_lkM 0 52 = some (mX0_isLetter, 1, 1) := rfl
theorem kM_0_56 : am_lkM 0 56 = some (mX0_isDigit, 1, 1) := rfl
theorem kM_0_59 : am_lkM 0 59 = some (mJ9_min_7cf53, 2, 1) := rfl
theorem kM_0_65 : am_lkM 0 65 = some (mX0_kindByWord, 0, 0) := rfl
theorem kM_0_69 : am_lkM 0 69 = some (mX6_isFull, 0, 0) := rfl
theorem kM_0_72 : am_lkM 0 72 = some (mX0_readStreet, 1, 0) := rfl
theorem kM_0_77 : am_lkM 0 77 = some (mX0_isWord, 1, 0) := rfl
theorem kM_0_81 : am_lkM 0 81 = some (mX0_readSpell, 0, 0) := rfl
theorem kM_0_86 : am_lkM 0 86 = some (mX0_readQuarter, 0, 0) := rfl
theorem kM_0_92 : am_lkM 0 92 = some (mX0_isNumber, 2, 0) := rfl
theorem kM_0_100 : am_lkM 0 100 = some (mX6_add, 5, 0) := rfl
theorem kM_0_108 : am_lkM 0 108 = some (mX0_readWeather, 3, 0) := rfl
theorem kM_0_119 : am_lkM 0 119 = some (mX0_wordFor, 1, 1) := rfl
theorem kM_0_146 : am_lkM 0 146 = some (mX7_isIn, 3, 4) := rfl
theorem kM_1_37 : am_lkM 1 37 = some (mX7_sumOf, 1, 4) := rfl
theorem kM_1_41 : am_lkM 1 41 = some (mJ9_min_7cf53, 2, 1) := rfl
theorem kM_1_47 : am_lkM 1 47 = some (mX1_total, 0, 0) := rfl
theorem kM_2_11 : am_lkM 2 11 = some (mX6_init, 0, 2) := rfl
theorem kM_2_20 : am_lkM 2 20 = some (mX1_init, 0, 2) := rfl
theorem kM_2_33 : am_lkM 2 33 = some (mX6_takeFrom, 1, 0) := rfl
theorem kM_2_37 : am_lkM 2 37 = some (mX1_takeFrom, 1, 0) := rfl
theorem kM_2_50 : am_lkM 2 50 = some (mX6_neighbours, 1, 0) := rfl
theorem kM_2_54 : am_lkM 2 54 = some (mJ6_bitCount_0f7a4, 1, 1) := rfl
theorem kM_2_59 : am_lkM 2 59 = some (mX2_draw, 0, 0) := rfl
theorem kM_2_63 : am_lkM 2 63 = some (mX7_isInSet, 2, 4) := rfl
theorem kM_2_74 : am_lkM 2 74 = some (mX5_takes, 0, 0) := rfl
theorem kM_2_82 : am_lkM 2 82 = some (mX6_lossAlong, 3, 0) := rfl
theorem kM_2_86 : am_lkM 2 86 = some (mX1_melt, 1, 0) := rfl
theorem kM_3_64 : am_lkM 3 64 = some (mJ7_fill_53178, 2, 1) := rfl
theorem kM_3_79 : am_lkM 3 79 = some (mX5_takes, 0, 0) := rfl
theorem kM_3_84 : am_lkM 3 84 = some (mX6_tellLosses, 4, 0) := rfl
theorem kM_3_101 : am_lkM 3 101 = some (mX6_quartersOnStreets, 0, 0) := rfl
theorem kM_3_109 : am_lkM 3 109 = some (mX1_total, 0, 0) := rfl
theorem kM_3_111 : am_lkM 3 111 = some (mX1_faceLasts, 0, 0) := rfl
theorem kM_3_116 : am_lkM 3 116 = some (mX3_walk, 6, 0) := rfl
theorem kM_3_120 : am_lkM 3 120 = some (mX3_note, 3, 0) := rfl
theorem kM_3_124 : am_lkM 3 124 = some (mX3_closeRound, 5, 0) := rfl
theorem kM_3_128 : am_lkM 3 128 = some (mX7_isInSet, 2, 4) := rfl
theorem kM_3_132 : am_lkM 3 132 = some (mX6_sumAlong, 4, 1) := rfl
theorem kM_3_136 : am_lkM 3 136 = some (mX3_seenAt, 3, 0) := rfl
theorem kM_3_140 : am_lkM 3 140 = some (mJ9_max_7cf53, 2, 1) := rfl
theorem kM_3_146 : am_lkM 3 146 = some (mJ9_min_7cf53, 2, 1) := rfl
theorem kM_4_22 : am_lkM 4 22 = some (mJ7_fill_53178, 2, 1) := rfl
theorem kM_5_27 : am_lkM 5 27 = some (mX5_meltsBySun, 2, 1) := rfl
theorem kM_5_31 : am_lkM 5 31 = some (mX5_wets, 2, 1) := rfl
theorem kM_5_34 : am_lkM 5 34 = some (mX5_licks, 1, 1) := rfl
theorem kM_5_38 : am_lkM 5 38 = some (mJ9_max_7cf53, 2, 1) := rfl
theorem kM_5_43 : am_lkM 5 43 = some (mX5_above, 1, 1) := rfl
theorem kM_6_34 : am_lkM 6 34 = some (mX5_init, 0, 5) := rfl
theorem kM_6_35 : am_lkM 6 35 = some (mX5_takeFrom, 1, 0) := rfl
theorem kM_6_45 : am_lkM 6 45 = some (mX7_isIn, 3, 4) := rfl
theorem kM_6_49 : am_lkM 6 49 = some (mX6_isFull, 0, 0) := rfl
theorem kM_6_68 : am_lkM 6 68 = some (mX5_across, 1, 0) := rfl
theorem kM_6_72 : am_lkM 6 72 = some (mX5_lossBy, 3, 0) := rfl
theorem kM_6_76 : am_lkM 6 76 = some (mX6_tellLosses, 4, 0) := rfl
theorem kM_6_80 : am_lkM 6 80 = some (mX5_takes, 0, 0) := rfl
theorem kM_6_84 : am_lkM 6 84 = some (mX6_sumAlong, 4, 1) := rfl
theorem kM_6_88 : am_lkM 6 88 = some (mJ9_min_7cf53, 2, 1) := rfl
theorem kM_7_9 : am_lkM 7 9 = some (mX2_init, 0, 2) := rfl
theorem kM_7_25 : am_lkM 7 25 = some (mX6_init, 0, 2) := rfl
theorem kM_7_32 : am_lkM 7 32 = some (mX3_init, 0, 5) := rfl
theorem kM_7_39 : am_lkM 7 39 = some (mX0_init, 0, 5) := rfl
theorem kM_7_54 : am_lkM 7 54 = some (mX4_init, 0, 5) := rfl
theorem kM_7_55 : am_lkM 7 55 = some (mX7_isKind, 1, 1) := rfl
theorem kM_7_59 : am_lkM 7 59 = some (mX7_isCorner, 1, 1) := rfl
theorem kM_7_62 : am_lkM 7 62 = some (mX7_isIn, 3, 1) := rfl
theorem kM_7_66 : am_lkM 7 66 = some (mX7_finding, 1, 0) := rfl
theorem kM_7_73 : am_lkM 7 73 = some (mX6_isFull, 0, 0) := rfl
theorem kM_7_77 : am_lkM 7 77 = some (mX6_add, 5, 0) := rfl
theorem kM_7_81 : am_lkM 7 81 = some (mX6_has, 1, 0) := rfl
theorem kM_7_100 : am_lkM 7 100 = some (mJ9_min_7cf53, 2, 1) := rfl
theorem kM_7_106 : am_lkM 7 106 = some (mJ9_max_7cf53, 2, 1) := rfl
theorem kM_7_115 : am_lkM 7 115 = some (mX5_takes, 0, 0) := rfl
theorem kM_7_119 : am_lkM 7 119 = some (mX5_licks, 1, 1) := rfl
theorem kM_7_125 : am_lkM 7 125 = some (mX7_put, 3, 1) := rfl
theorem kM_7_144 : am_lkM 7 144 = some (mX5_lossBy, 3, 0) := rfl
theorem kM_7_148 : am_lkM 7 148 = some (mX6_neighbours, 1, 0) := rfl
theorem kM_7_151 : am_lkM 7 151 = some (mX6_between, 2, 0) := rfl
theorem kM_7_157 : am_lkM 7 157 = some (mX1_total, 0, 0) := rfl
theorem kM_7_172 : am_lkM 7 172 = some (mX2_isTooLate, 1, 0) := rfl
theorem kM_7_175 : am_lkM 7 175 = some (mX2_carryAlong, 2, 0) := rfl
theorem kM_7_178 : am_lkM 7 178 = some (mJ6_bitCount_0f7a4, 1, 1) := rfl
theorem kM_7_183 : am_lkM 7 183 = some (mX1_beginDay, 0, 0) := rfl
theorem kM_7_186 : am_lkM 7 186 = some (mX7_costsIn, 3, 0) := rfl
theorem kM_7_190 : am_lkM 7 190 = some (mX7_findWays, 1, 0) := rfl
theorem kM_7_205 : am_lkM 7 205 = some (mX7_seekWays, 1, 0) := rfl
theorem kM_7_212 : am_lkM 7 212 = some (mX7_isPastPlanning, 0, 0) := rfl
theorem kM_7_215 : am_lkM 7 215 = some (mX7_seekRounds, 3, 0) := rfl
theorem kM_7_219 : am_lkM 7 219 = some (mX3_prepare, 4, 0) := rfl
theorem kM_7_223 : am_lkM 7 223 = some (mX3_seek, 2, 0) := rfl
theorem kM_7_227 : am_lkM 7 227 = some (mX6_takeFrom, 1, 0) := rfl
theorem kM_7_234 : am_lkM 7 234 = some (mX7_isInSet, 2, 1) := rfl
theorem kM_7_238 : am_lkM 7 238 = some (mX2_draw, 0, 0) := rfl
theorem kM_7_241 : am_lkM 7 241 = some (mX7_sumOf, 1, 1) := rfl
theorem kM_7_245 : am_lkM 7 245 = some (mX2_drawNeighbour, 0, 0) := rfl
theorem kM_7_248 : am_lkM 7 248 = some (mX1_remake, 0, 0) := rfl
theorem kM_7_255 : am_lkM 7 255 = some (mX0_append, 1, 0) := rfl
theorem kM_7_260 : am_lkM 7 260 = some (mX0_readAll, 0, 0) := rfl
theorem kM_7_266 : am_lkM 7 266 = some (mX5_isUnder, 2, 1) := rfl
theorem kM_7_269 : am_lkM 7 269 = some (mX7_isSheet, 1, 1) := rfl
theorem kM_7_272 : am_lkM 7 272 = some (mX4_remake, 2, 0) := rfl
theorem kM_7_275 : am_lkM 7 275 = some (mX4_isMissing, 0, 0) := rfl
theorem kM_7_278 : am_lkM 7 278 = some (mX4_set, 2, 0) := rfl
theorem kM_7_284 : am_lkM 7 284 = some (mX4_hasRange, 2, 0) := rfl
theorem kM_7_296 : am_lkM 7 296 = some (mX6_lossAlong, 3, 0) := rfl
theorem kM_7_299 : am_lkM 7 299 = some (mX2_takeFrom, 1, 0) := rfl
theorem kM_7_302 : am_lkM 7 302 = some (mX6_takesOfAll, 0, 0) := rfl
theorem kM_7_305 : am_lkM 7 305 = some (mX6_umbrellas, 0, 0) := rfl
theorem kM_7_308 : am_lkM 7 308 = some (mX2_spotsHeld, 0, 0) := rfl
theorem kM_8_74 : am_lkM 8 74 = some (mX8_copyRow, 2, 1) := rfl
theorem kM_8_78 : am_lkM 8 78 = some (mX8_within, 3, 1) := rfl
theorem kM_8_82 : am_lkM 8 82 = some (mX8_at, 2, 1) := rfl
theorem kM_8_86 : am_lkM 8 86 = some (mJ9_min_7cf53, 2, 1) := rfl
theorem kM_8_91 : am_lkM 8 91 = some (mJ9_max_7cf53, 2, 1) := rfl
theorem kM_8_94 : am_lkM 8 94 = some (mX8_isKind, 1, 1) := rfl
theorem kM_8_98 : am_lkM 8 98 = some (mX8_isCorner, 1, 1) := rfl
theorem kM_8_101 : am_lkM 8 101 = some (mX8_finding, 1, 0) := rfl
theorem kM_8_106 : am_lkM 8 106 = some (mX8_comes, 5, 0) := rfl
theorem kM_8_110 : am_lkM 8 110 = some (mX8_above, 1, 1) := rfl
theorem kM_8_113 : am_lkM 8 113 = some (mX8_streetIs, 2, 0) := rfl
theorem kM_8_116 : am_lkM 8 116 = some (mX8_isUnder, 2, 1) := rfl
theorem kM_8_120 : am_lkM 8 120 = some (mX8_licks, 1, 0) := rfl
theorem kM_8_123 : am_lkM 8 123 = some (mX8_isStreet, 1, 0) := rfl
theorem kM_8_126 : am_lkM 8 126 = some (mX8_takes, 1, 0) := rfl
theorem kM_8_129 : am_lkM 8 129 = some (mX8_become, 2, 0) := rfl
theorem kM_8_132 : am_lkM 8 132 = some (mX8_isSpell, 1, 1) := rfl
theorem kM_8_135 : am_lkM 8 135 = some (mX8_lossOf, 2, 0) := rfl
theorem kM_8_138 : am_lkM 8 138 = some (mX8_streetBy, 2, 0) := rfl
theorem kM_8_141 : am_lkM 8 141 = some (mX8_nextTo, 1, 0) := rfl
theorem kM_8_145 : am_lkM 8 145 = some (mX8_allGrains, 0, 0) := rfl
theorem kM_8_149 : am_lkM 8 149 = some (mX8_spellOf, 1, 1) := rfl
theorem kM_8_152 : am_lkM 8 152 = some (mX8_minuteOn, 1, 0) := rfl
theorem kM_8_156 : am_lkM 8 156 = some (mX8_isTooLate, 1, 0) := rfl
theorem kM_8_160 : am_lkM 8 160 = some (mX8_carried, 2, 0) := rfl
theorem kM_8_164 : am_lkM 8 164 = some (mX8_bits, 1, 1) := rfl
theorem kM_8_167 : am_lkM 8 167 = some (mX8_costsOf, 2, 0) := rfl
theorem kM_8_182 : am_lkM 8 182 = some (mX8_isWhole, 2, 0) := rfl
theorem kM_8_185 : am_lkM 8 185 = some (mX8_has, 2, 1) := rfl
theorem kM_8_188 : am_lkM 8 188 = some (mX8_keepAhead, 1, 0) := rfl
theorem kM_8_191 : am_lkM 8 191 = some (mX8_waysOn, 4, 0) := rfl
theorem kM_8_195 : am_lkM 8 195 = some (mX8_backTo, 1, 0) := rfl
theorem kM_8_198 : am_lkM 8 198 = some (mX8_none, 0, 0) := rfl
theorem kM_8_201 : am_lkM 8 201 = some (mX8_isLate, 0, 0) := rfl
theorem kM_8_205 : am_lkM 8 205 = some (mX8_findWays, 1, 0) := rfl
theorem kM_8_208 : am_lkM 8 208 = some (mX8_refusesWays, 1, 0) := rfl
theorem kM_8_211 : am_lkM 8 211 = some (mX8_isPlace, 1, 1) := rfl
theorem kM_8_214 : am_lkM 8 214 = some (mX8_roundsOn, 4, 0) := rfl
theorem kM_8_217 : am_lkM 8 217 = some (mX8_due, 0, 0) := rfl
theorem kM_8_220 : am_lkM 8 220 = some (mX8_bestRound, 0, 0) := rfl
theorem kM_8_229 : am_lkM 8 229 = some (mX8_nothingTried, 0, 0) := rfl
theorem kM_8_232 : am_lkM 8 232 = some (mX8_tried, 2, 0) := rfl
theorem kM_8_235 : am_lkM 8 235 = some (mX8_bestTried, 0, 0) := rfl
theorem kM_8_238 : am_lkM 8 238 = some (mX8_bestWith, 3, 0) := rfl
theorem kM_8_243 : am_lkM 8 243 = some (mX8_drawn, 1, 0) := rfl
theorem kM_8_246 : am_lkM 8 246 = some (mX8_sum, 2, 0) := rfl
theorem kM_8_249 : am_lkM 8 249 = some (mX8_day, 0, 0) := rfl
theorem kM_8_261 : am_lkM 8 261 = some (mX8_byteAt, 1, 0) := rfl
theorem kM_8_281 : am_lkM 8 281 = some (mX8_next_, 0, 0) := rfl
theorem kM_8_284 : am_lkM 8 284 = some (mX8_must, 1, 0) := rfl
theorem kM_8_291 : am_lkM 8 291 = some (mX8_isWord, 1, 0) := rfl
theorem kM_8_295 : am_lkM 8 295 = some (mX8_kindTold, 0, 0) := rfl
theorem kM_8_304 : am_lkM 8 304 = some (mX8_number, 2, 0) := rfl
theorem kM_8_309 : am_lkM 8 309 = some (mX8_isNext, 1, 0) := rfl
theorem kM_8_314 : am_lkM 8 314 = some (mX8_row, 5, 0) := rfl
theorem kM_8_330 : am_lkM 8 330 = some (mX8_readItem, 0, 0) := rfl
theorem kM_8_333 : am_lkM 8 333 = some (mX8_isSo, 1, 0) := rfl
theorem kM_8_336 : am_lkM 8 336 = some (mX8_isSpot, 1, 1) := rfl
theorem kM_8_341 : am_lkM 8 341 = some (mX8_isSheet, 1, 1) := rfl
theorem kM_8_345 : am_lkM 8 345 = some (mX8_cutTo, 2, 1) := rfl
theorem kM_8_348 : am_lkM 8 348 = some (mX8_putBack, 1, 0) := rfl
theorem kM_9_9 : am_lkM 9 9 = some (mX7_init, 0, 2) := rfl
theorem kM_9_12 : am_lkM 9 12 = some (mX8_init, 0, 2) := rfl
theorem kM_9_13 : am_lkM 9 13 = some (mX7_street, 4, 0) := rfl
theorem kM_9_17 : am_lkM 9 17 = some (mX8_street, 4, 0) := rfl
theorem kM_9_18 : am_lkM 9 18 = some (mX7_of, 2, 0) := rfl
theorem kM_9_22 : am_lkM 9 22 = some (mX8_of, 2, 0) := rfl
theorem kM_9_23 : am_lkM 9 23 = some (mX7_change, 3, 0) := rfl
theorem kM_9_27 : am_lkM 9 27 = some (mX8_change, 3, 0) := rfl
theorem kM_9_28 : am_lkM 9 28 = some (mX7_quarter, 2, 0) := rfl
theorem kM_9_31 : am_lkM 9 31 = some (mX8_quarter, 2, 0) := rfl
theorem kM_9_32 : am_lkM 9 32 = some (mX7_spell, 3, 0) := rfl
theorem kM_9_35 : am_lkM 9 35 = some (mX8_spell, 3, 0) := rfl
theorem kM_9_36 : am_lkM 9 36 = some (mX7_loss, 2, 0) := rfl
theorem kM_9_39 : am_lkM 9 39 = some (mX8_loss, 2, 0) := rfl
theorem kM_9_40 : am_lkM 9 40 = some (mX7_next, 1, 0) := rfl
theorem kM_9_44 : am_lkM 9 44 = some (mX8_next, 1, 0) := rfl
theorem kM_9_45 : am_lkM 9 45 = some (mX7_by, 2, 0) := rfl
theorem kM_9_48 : am_lkM 9 48 = some (mX8_by, 2, 0) := rfl
theorem kM_9_49 : am_lkM 9 49 = some (mX7_grains, 2, 0) := rfl
theorem kM_9_52 : am_lkM 9 52 = some (mX8_grains, 2, 0) := rfl
theorem kM_9_53 : am_lkM 9 53 = some (mX7_now, 1, 0) := rfl
theorem kM_9_56 : am_lkM 9 56 = some (mX8_now, 1, 0) := rfl
theorem kM_9_57 : am_lkM 9 57 = some (mX7_made, 1, 0) := rfl
theorem kM_9_60 : am_lkM 9 60 = some (mX8_made, 1, 0) := rfl
theorem kM_9_61 : am_lkM 9 61 = some (mX7_carry, 1, 0) := rfl
theorem kM_9_64 : am_lkM 9 64 = some (mX8_carry, 1, 0) := rfl
theorem kM_9_65 : am_lkM 9 65 = some (mX7_wait, 1, 0) := rfl
theorem kM_9_68 : am_lkM 9 68 = some (mX8_wait, 1, 0) := rfl
theorem kM_9_69 : am_lkM 9 69 = some (mX7_day, 0, 0) := rfl
theorem kM_9_73 : am_lkM 9 73 = some (mX8_day, 0, 0) := rfl
theorem kM_9_74 : am_lkM 9 74 = some (mX7_costs, 2, 0) := rfl
theorem kM_9_77 : am_lkM 9 77 = some (mX8_costs, 2, 0) := rfl
theorem kM_9_78 : am_lkM 9 78 = some (mX7_most, 1, 0) := rfl
theorem kM_9_81 : am_lkM 9 81 = some (mX8_most, 1, 0) := rfl
theorem kM_9_82 : am_lkM 9 82 = some (mX7_way, 2, 0) := rfl
theorem kM_9_85 : am_lkM 9 85 = some (mX8_way, 2, 0) := rfl
theorem kM_9_86 : am_lkM 9 86 = some (mX7_soonest, 1, 0) := rfl
theorem kM_9_89 : am_lkM 9 89 = some (mX8_soonest, 1, 0) := rfl
theorem kM_9_90 : am_lkM 9 90 = some (mX7_ways, 1, 0) := rfl
theorem kM_9_93 : am_lkM 9 93 = some (mX8_ways, 1, 0) := rfl
theorem kM_9_94 : am_lkM 9 94 = some (mX7_round, 0, 0) := rfl
theorem kM_9_97 : am_lkM 9 97 = some (mX8_round, 0, 0) := rfl
theorem kM_9_98 : am_lkM 9 98 = some (mX7_ith, 1, 0) := rfl
theorem kM_9_101 : am_lkM 9 101 = some (mX8_ith, 1, 0) := rfl
theorem kM_9_102 : am_lkM 9 102 = some (mX7_rounds, 0, 0) := rfl
theorem kM_9_105 : am_lkM 9 105 = some (mX8_rounds, 0, 0) := rfl
theorem kM_9_106 : am_lkM 9 106 = some (mX7_start, 0, 0) := rfl
theorem kM_9_109 : am_lkM 9 109 = some (mX8_start, 0, 0) := rfl
theorem kM_9_110 : am_lkM 9 110 = some (mX7_better, 0, 0) := rfl
theorem kM_9_113 : am_lkM 9 113 = some (mX8_better, 0, 0) := rfl
theorem kM_9_114 : am_lkM 9 114 = some (mX7_umbrella, 0, 0) := rfl
theorem kM_9_117 : am_lkM 9 117 = some (mX8_umbrella, 0, 0) := rfl
theorem kM_9_118 : am_lkM 9 118 = some (mX7_shade, 0, 0) := rfl
theorem kM_9_121 : am_lkM 9 121 = some (mX8_shade, 0, 0) := rfl
theorem kM_9_122 : am_lkM 9 122 = some (mX7_needed, 0, 0) := rfl
theorem kM_9_125 : am_lkM 9 125 = some (mX8_needed, 0, 0) := rfl
theorem kM_9_126 : am_lkM 9 126 = some (mX7_kindFor, 1, 0) := rfl
theorem kM_9_129 : am_lkM 9 129 = some (mX8_kindFor, 1, 0) := rfl
theorem kM_9_130 : am_lkM 9 130 = some (mX7_reach, 0, 0) := rfl
theorem kM_9_133 : am_lkM 9 133 = some (mX8_reach, 0, 0) := rfl
theorem kM_9_134 : am_lkM 9 134 = some (mX7_sky, 1, 0) := rfl
theorem kM_9_137 : am_lkM 9 137 = some (mX8_sky, 1, 0) := rfl
theorem kM_9_138 : am_lkM 9 138 = some (mX7_stray, 1, 0) := rfl
theorem kM_9_141 : am_lkM 9 141 = some (mX8_stray, 1, 0) := rfl
theorem kM_9_142 : am_lkM 9 142 = some (mX7_year, 0, 0) := rfl
theorem kM_9_145 : am_lkM 9 145 = some (mX8_year, 0, 0) := rfl
theorem kM_9_146 : am_lkM 9 146 = some (mX7_seed, 1, 0) := rfl
theorem kM_9_149 : am_lkM 9 149 = some (mX8_seed, 1, 0) := rfl
theorem kM_9_150 : am_lkM 9 150 = some (mX7_feed, 2, 0) := rfl
theorem kM_9_153 : am_lkM 9 153 = some (mX8_feed, 2, 0) := rfl
theorem kM_9_154 : am_lkM 9 154 = some (mX7_wipe, 0, 0) := rfl
theorem kM_9_157 : am_lkM 9 157 = some (mX8_wipe, 0, 0) := rfl
theorem kM_9_158 : am_lkM 9 158 = some (mX7_text, 0, 0) := rfl
theorem kM_9_161 : am_lkM 9 161 = some (mX8_text, 0, 0) := rfl
theorem kM_9_162 : am_lkM 9 162 = some (mX7_hold, 2, 0) := rfl
theorem kM_9_165 : am_lkM 9 165 = some (mX8_hold, 2, 0) := rfl
theorem kM_9_166 : am_lkM 9 166 = some (mX7_as, 2, 0) := rfl
theorem kM_9_169 : am_lkM 9 169 = some (mX8_as, 2, 0) := rfl
theorem kM_9_170 : am_lkM 9 170 = some (mX7_sheet, 3, 0) := rfl
theorem kM_9_173 : am_lkM 9 173 = some (mX8_sheet, 3, 0) := rfl
theorem kM_9_174 : am_lkM 9 174 = some (mX7_write, 3, 0) := rfl
theorem kM_9_177 : am_lkM 9 177 = some (mX8_write, 3, 0) := rfl
theorem kM_9_178 : am_lkM 9 178 = some (mX7_copy, 5, 0) := rfl
theorem kM_9_182 : am_lkM 9 182 = some (mX8_copy, 5, 0) := rfl
theorem kM_9_183 : am_lkM 9 183 = some (mX7_load, 1, 0) := rfl
theorem kM_9_186 : am_lkM 9 186 = some (mX8_load, 1, 0) := rfl
theorem kM_9_187 : am_lkM 9 187 = some (mX7_judge, 1, 0) := rfl
theorem kM_9_190 : am_lkM 9 190 = some (mX8_judge, 1, 0) := rfl
theorem kM_9_191 : am_lkM 9 191 = some (mX7_image, 0, 0) := rfl
theorem kM_9_194 : am_lkM 9 194 = some (mX8_image, 0, 0) := rfl
theorem kM_9_195 : am_lkM 9 195 = some (mX7_undo, 0, 0) := rfl
theorem kM_9_198 : am_lkM 9 198 = some (mX8_undo, 0, 0) := rfl
theorem kM_9_199 : am_lkM 9 199 = some (mX7_tear, 0, 0) := rfl
theorem kM_9_202 : am_lkM 9 202 = some (mX8_tear, 0, 0) := rfl
theorem kM_9_203 : am_lkM 9 203 = some (mX7_count, 1, 0) := rfl
theorem kM_9_206 : am_lkM 9 206 = some (mX8_count, 1, 0) := rfl
theorem kM_9_207 : am_lkM 9 207 = some (mX7_status, 1, 0) := rfl
theorem kM_9_210 : am_lkM 9 210 = some (mX8_status, 1, 0) := rfl
theorem kX_0_3 : am_lkX 0 3 = some 0 := by decide +kernel
theorem kO_0_3 : am_lkM 0 3 = none := rfl
theorem kX_0_137 : am_lkX 0 137 = some 1 := by decide +kernel
theorem kO_0_137 : am_lkM 0 137 = none := rfl
theorem kX_0_142 : am_lkX 0 142 = some 2 := by decide +kernel
theorem kO_0_142 : am_lkM 0 142 = none := rfl
theorem kX_1_3 : am_lkX 1 3 = some 0 := by decide +kernel
theorem kO_1_3 : am_lkM 1 3 = none := rfl
theorem kX_1_31 : am_lkX 1 31 = some 3 := by decide +kernel
theorem kO_1_31 : am_lkM 1 31 = none := rfl
theorem kX_2_3 : am_lkX 2 3 = some 0 := by decide +kernel
theorem kO_2_3 : am_lkM 2 3 = none := rfl
theorem kX_2_40 : am_lkX 2 40 = some 3 := by decide +kernel
theorem kO_2_40 : am_lkM 2 40 = none := rfl
theorem kX_3_3 : am_lkX 3 3 = some 0 := by decide +kernel
theorem kO_3_3 : am_lkM 3 3 = none := rfl
theorem kX_3_95 : am_lkX 3 95 = some 3 := by decide +kernel
theorem kO_3_95 : am_lkM 3 95 = none := rfl
theorem kX_4_3 : am_lkX 4 3 = some 0 := by decide +kernel
theorem kO_4_3 : am_lkM 4 3 = none := rfl
theorem kX_5_3 : am_lkX 5 3 = some 0 := by decide +kernel
theorem kO_5_3 : am_lkM 5 3 = none := rfl
theorem kX_6_3 : am_lkX 6 3 = some 0 := by decide +kernel
theorem kO_6_3 : am_lkM 6 3 = none := rfl
theorem kX_6_39 : am_lkX 6 39 = some 3 := by decide +kernel
theorem kO_6_39 : am_lkM 6 39 = none := rfl
theorem kX_7_1 : am_lkX 7 1 = some 0 := by decide +kernel
theorem kO_7_1 : am_lkM 7 1 = none := rfl
theorem kX_7_290 : am_lkX 7 290 = some 3 := by decide +kernel
theorem kO_7_290 : am_lkM 7 290 = none := rfl
theorem kX_8_1 : am_lkX 8 1 = some 0 := by decide +kernel
theorem kO_8_1 : am_lkM 8 1 = none := rfl
theorem kX_8_270 : am_lkX 8 270 = some 1 := by decide +kernel
theorem kO_8_270 : am_lkM 8 270 = none := rfl
theorem kX_8_273 : am_lkX 8 273 = some 2 := by decide +kernel
theorem kO_8_273 : am_lkM 8 273 = none := rfl
theorem kS_0_75 : am_lkS 0 75 = some 9 := by decide +kernel
theorem kT_0_75 : am_lkN 0 75 = none := by decide +kernel
theorem kS_0_84 : am_lkS 0 84 = some 12 := by decide +kernel
theorem kT_0_84 : am_lkN 0 84 = none := by decide +kernel
theorem kS_0_89 : am_lkS 0 89 = some 13 := by decide +kernel
theorem kT_0_89 : am_lkN 0 89 = none := by decide +kernel
theorem kS_0_90 : am_lkS 0 90 = some 14 := by decide +kernel
theorem kT_0_90 : am_lkN 0 90 = none := by decide +kernel
theorem kS_0_96 : am_lkS 0 96 = some 7 := by decide +kernel
theorem kT_0_96 : am_lkN 0 96 = none := by decide +kernel
theorem kS_0_98 : am_lkS 0 98 = some 8 := by decide +kernel
theorem kT_0_98 : am_lkN 0 98 = none := by decide +kernel
theorem kS_0_104 : am_lkS 0 104 = some 10 := by decide +kernel
theorem kT_0_104 : am_lkN 0 104 = none := by decide +kernel
theorem kS_0_112 : am_lkS 0 112 = some 11 := by decide +kernel
theorem kT_0_112 : am_lkN 0 112 = none := by decide +kernel
theorem kS_0_123 : am_lkS 0 123 = some 0 := by decide +kernel
theorem kT_0_123 : am_lkN 0 123 = none := by decide +kernel
theorem kS_0_125 : am_lkS 0 125 = some 1 := by decide +kernel
theorem kT_0_125 : am_lkN 0 125 = none := by decide +kernel
theorem kS_0_127 : am_lkS 0 127 = some 2 := by decide +kernel
theorem kT_0_127 : am_lkN 0 127 = none := by decide +kernel
theorem kS_0_129 : am_lkS 0 129 = some 3 := by decide +kernel
theorem kT_0_129 : am_lkN 0 129 = none := by decide +kernel
theorem kS_0_131 : am_lkS 0 131 = some 4 := by decide +kernel
theorem kT_0_131 : am_lkN 0 131 = none := by decide +kernel
theorem kS_0_133 : am_lkS 0 133 = some 5 := by decide +kernel
theorem kT_0_133 : am_lkN 0 133 = none := by decide +kernel
theorem kS_0_135 : am_lkS 0 135 = some 6 := by decide +kernel
theorem kT_0_135 : am_lkN 0 135 = none := by decide +kernel
theorem kS_8_40 : am_lkS 8 40 = some 6 := by decide +kernel
theorem kT_8_40 : am_lkN 8 40 = none := by decide +kernel
theorem kS_8_42 : am_lkS 8 42 = some 0 := by decide +kernel
theorem kT_8_42 : am_lkN 8 42 = none := by decide +kernel
theorem kS_8_44 : am_lkS 8 44 = some 1 := by decide +kernel
theorem kT_8_44 : am_lkN 8 44 = none := by decide +kernel
theorem kS_8_46 : am_lkS 8 46 = some 2 := by decide +kernel
theorem kT_8_46 : am_lkN 8 46 = none := by decide +kernel
theorem kS_8_48 : am_lkS 8 48 = some 3 := by decide +kernel
theorem kT_8_48 : am_lkN 8 48 = none := by decide +kernel
theorem kS_8_50 : am_lkS 8 50 = some 4 := by decide +kernel
theorem kT_8_50 : am_lkN 8 50 = none := by decide +kernel
theorem kS_8_52 : am_lkS 8 52 = some 5 := by decide +kernel
theorem kT_8_52 : am_lkN 8 52 = none := by decide +kernel
theorem kS_8_307 : am_lkS 8 307 = some 7 := by decide +kernel
theorem kT_8_307 : am_lkN 8 307 = none := by decide +kernel
theorem kS_8_312 : am_lkS 8 312 = some 8 := by decide +kernel
theorem kT_8_312 : am_lkN 8 312 = none := by decide +kernel
theorem kS_8_318 : am_lkS 8 318 = some 9 := by decide +kernel
theorem kT_8_318 : am_lkN 8 318 = none := by decide +kernel
theorem kS_8_320 : am_lkS 8 320 = some 10 := by decide +kernel
theorem kT_8_320 : am_lkN 8 320 = none := by decide +kernel
theorem kS_8_322 : am_lkS 8 322 = some 11 := by decide +kernel
theorem kT_8_322 : am_lkN 8 322 = none := by decide +kernel
theorem kS_8_324 : am_lkS 8 324 = some 12 := by decide +kernel
theorem kT_8_324 : am_lkN 8 324 = none := by decide +kernel
theorem kS_8_326 : am_lkS 8 326 = some 13 := by decide +kernel
theorem kT_8_326 : am_lkN 8 326 = none := by decide +kernel
theorem kS_8_328 : am_lkS 8 328 = some 14 := by decide +kernel
theorem kT_8_328 : am_lkN 8 328 = none := by decide +kernel
theorem kN_2_46 : am_lkN 2 46 = some (1103515245) := by decide +kernel
theorem kN_7_311 : am_lkN 7 311 = some (-1000001) := by decide +kernel
theorem kN_8_73 : am_lkN 8 73 = some (-1000001) := by decide +kernel
theorem kN_8_105 : am_lkN 8 105 = some (-1000002) := by decide +kernel
theorem kN_8_144 : am_lkN 8 144 = some (-1000004) := by decide +kernel
theorem kN_8_159 : am_lkN 8 159 = some (-1000005) := by decide +kernel
theorem kN_8_242 : am_lkN 8 242 = some (1103515245) := by decide +kernel
theorem kN_8_339 : am_lkN 8 339 = some (-1000006) := by decide +kernel
theorem kN_8_340 : am_lkN 8 340 = some (-1000003) := by decide +kernel
theorem kN_8_344 : am_lkN 8 344 = some (-1000007) := by decide +kernel
theorem kN_10_265 : am_lkN 10 265 = some (1431655765) := by decide +kernel
theorem kN_10_266 : am_lkN 10 266 = some (858993459) := by decide +kernel
theorem kN_10_267 : am_lkN 10 267 = some (252645135) := by decide +kernel
/-- towns, scenes, saints, sheets: their cells -/
abbrev tw (T : Int) : Prop := T = 2 ∨ T = 26 ∨ T = 49 ∨ T = 78
abbrev sc (S : Int) : Prop := S = 1 ∨ S = 25
abbrev sn (a : Int) : Prop := a = 22 ∨ a = 46
abbrev sq (a : Int) : Prop := a = 100 ∨ a = 102 ∨ a = 104 ∨ a = 106
theorem tw_c {T : Int} (h : tw T) : is_c 6 T := by rcases h with rfl | rfl | rfl | rfl <;> decide
theorem sc_c {S : Int} (h : sc S) : is_c 2 S := by rcases h with rfl | rfl <;> decide
theorem sn_c {a : Int} (h : sn a) : is_c 1 a := by rcases h with rfl | rfl <;> decide
theorem sq_c {a : Int} (h : sq a) : is_c 4 a := by rcases h with rfl | rfl | rfl | rfl <;> decide
theorem tw_n {T : Int} (h : tw T) (k : Int) (hk : 0 ≤ k) : 0 ≤ T + k := by rcases h with rfl | rfl | rfl | rfl <;> omega
theorem sc_n {T : Int} (h : sc T) (k : Int) (hk : 0 ≤ k) : 0 ≤ T + k := by rcases h with rfl | rfl <;> omega
theorem sn_n {T : Int} (h : sn T) (k : Int) (hk : 0 ≤ k) : 0 ≤ T + k := by rcases h with rfl | rfl <;> omega
theorem sq_n {T : Int} (h : sq T) (k : Int) (hk : 0 ≤ k) : 0 ≤ T + k := by rcases h with rfl | rfl | rfl | rfl <;> omega
theorem sc_t {S : Int} (h : sc S) : tw (S + 1) := by rcases h with rfl | rfl <;> decide
theorem sc_s {S : Int} (h : sc S) : sn (S + 21) := by rcases h with rfl | rfl <;> decide

theorem tw_k1 {T : Int} (h : tw T) : am_kd (T + 1).toNat = (1, 14) := by rcases h with rfl | rfl | rfl | rfl <;> rfl
theorem tw_k2 {T : Int} (h : tw T) : am_kd (T + 2).toNat = (0, 8) := by rcases h with rfl | rfl | rfl | rfl <;> rfl
theorem tw_k3 {T : Int} (h : tw T) : am_kd (T + 3).toNat = (0, 12) := by rcases h with rfl | rfl | rfl | rfl <;> rfl
theorem tw_k4 {T : Int} (h : tw T) : am_kd (T + 4).toNat = (0, 12) := by rcases h with rfl | rfl | rfl | rfl <;> rfl
theorem tw_k5 {T : Int} (h : tw T) : am_kd (T + 5).toNat = (0, 12) := by rcases h with rfl | rfl | rfl | rfl <;> rfl
theorem fr_6_0 {T : Int} (h : tw T) : am_sk T.toNat 0 = some (T + 1).toNat := by rcases h with rfl | rfl | rfl | rfl <;> rfl
theorem fr_6_2 {T : Int} (h : tw T) : am_sk T.toNat 2 = some (T + 2).toNat := by rcases h with rfl | rfl | rfl | rfl <;> rfl
theorem fr_6_3 {T : Int} (h : tw T) : am_sk T.toNat 3 = some (T + 3).toNat := by rcases h with rfl | rfl | rfl | rfl <;> rfl
theorem fr_6_4 {T : Int} (h : tw T) : am_sk T.toNat 4 = some (T + 4).toNat := by rcases h with rfl | rfl | rfl | rfl <;> rfl
theorem fr_6_5 {T : Int} (h : tw T) : am_sk T.toNat 5 = some (T + 5).toNat := by rcases h with rfl | rfl | rfl | rfl <;> rfl
theorem fr_2_0 {T : Int} (h : sc T) : am_sk T.toNat 0 = some (T + 1).toNat := by rcases h with rfl | rfl <;> rfl
theorem fr_2_1 {T : Int} (h : sc T) : am_sk T.toNat 1 = some (T + 21).toNat := by rcases h with rfl | rfl <;> rfl
theorem fr_2_2 {T : Int} (h : sc T) : am_sk T.toNat 2 = some (T + 23).toNat := by rcases h with rfl | rfl <;> rfl
theorem sc_k23 {T : Int} (h : sc T) : am_kd (T + 23).toNat = (0, 10) := by rcases h with rfl | rfl <;> rfl
theorem fr_1_0 {T : Int} (h : sn T) : am_sk T.toNat 0 = some (T + 1).toNat := by rcases h with rfl | rfl <;> rfl
theorem sn_k1 {T : Int} (h : sn T) : am_kd (T + 1).toNat = (0, 4) := by rcases h with rfl | rfl <;> rfl
theorem fr_4_2 {T : Int} (h : sq T) : am_sk T.toNat 2 = some (T + 1).toNat := by rcases h with rfl | rfl | rfl | rfl <;> rfl
theorem sq_k1 {T : Int} (h : sq T) : am_kd (T + 1).toNat = (0, 40) := by rcases h with rfl | rfl | rfl | rfl <;> rfl
theorem st_c0 : ∀ t : Fin 4, ∀ j : Fin 14, is_c 5 ((([2, 26, 49, 78] : List Int).getD t.val 0) + 6 + (j.val : Int)) ∧ am_sk ((([2, 26, 49, 78] : List Int).getD t.val 0) + 1).toNat j.val = some ((([2, 26, 49, 78] : List Int).getD t.val 0) + 6 + (j.val : Int)).toNat := by decide +kernel
theorem st_b {T j : Int} (h : tw T) (h0 : 0 ≤ j) (h1 : j < 14) : is_c 5 (T + 6 + j) ∧ am_sk (T + 1).toNat j.toNat = some (T + 6 + j).toNat := by
  obtain ⟨n, rfl⟩ := Int.eq_ofNat_of_zero_le h0
  have hn : n < 14 := by omega
  rcases h with rfl | rfl | rfl | rfl
  · exact st_c0 0 ⟨n, hn⟩
  · exact st_c0 1 ⟨n, hn⟩
  · exact st_c0 2 ⟨n, hn⟩
  · exact st_c0 3 ⟨n, hn⟩
theorem st_c {T j : Int} (h : tw T) (h0 : 0 ≤ j) (h1 : j < 14) : is_c 5 (T + 6 + j) := (st_b h h0 h1).1
theorem st_q {T j : Int} (h : tw T) (h0 : 0 ≤ j) (h1 : j < 14) : am_sk (T + 1).toNat j.toNat = some (T + 6 + j).toNat := (st_b h h0 h1).2
theorem sq_b {j : Int} (h0 : 0 ≤ j) (h1 : j < 4) : sq (100 + 2 * j) ∧ am_sk (98 : Int).toNat j.toNat = some (100 + 2 * j).toNat := by
  obtain ⟨n, rfl⟩ := Int.eq_ofNat_of_zero_le h0
  have hn : n < 4 := by omega
  have key : ∀ n : Fin 4, sq (100 + 2 * (n.val : Int)) ∧ am_sk (98 : Int).toNat n.val = some (100 + 2 * (n.val : Int)).toNat := by decide +kernel
  exact key ⟨n, hn⟩
theorem cat0 : (([] : List Value).map fun v => v.category).sum ≤ 8 := by decide

