theorem dX0_init_0 : decode cX0_init 0 = .ok (.aload_n 0, 1) := by decide +kernel
theorem dX0_init_1 : decode cX0_init 1 = .ok (.invokespecial 3, 3) := by decide +kernel
theorem dX0_init_4 : decode cX0_init 4 = .ok (.aload_n 0, 1) := by decide +kernel
theorem dX0_init_5 : decode cX0_init 5 = .ok (.bipush 120, 2) := by decide +kernel
theorem dX0_init_7 : decode cX0_init 7 = .ok (.newarray .int, 2) := by decide +kernel
theorem dX0_init_9 : decode cX0_init 9 = .ok (.putfield 9, 3) := by decide +kernel
theorem dX0_init_12 : decode cX0_init 12 = .ok (.aload_n 0, 1) := by decide +kernel
theorem dX0_init_13 : decode cX0_init 13 = .ok (.iconst 0, 1) := by decide +kernel
theorem dX0_init_14 : decode cX0_init 14 = .ok (.putfield 15, 3) := by decide +kernel
theorem dX0_init_17 : decode cX0_init 17 = .ok (.aload_n 0, 1) := by decide +kernel
theorem dX0_init_18 : decode cX0_init 18 = .ok (.new 19, 3) := by decide +kernel
theorem dX0_init_21 : decode cX0_init 21 = .ok (.dup, 1) := by decide +kernel
theorem dX0_init_22 : decode cX0_init 22 = .ok (.invokespecial 21, 3) := by decide +kernel
theorem dX0_init_25 : decode cX0_init 25 = .ok (.putfield 22, 3) := by decide +kernel
theorem dX0_init_28 : decode cX0_init 28 = .ok (.aload_n 0, 1) := by decide +kernel
theorem dX0_init_29 : decode cX0_init 29 = .ok (.iconst 0, 1) := by decide +kernel
theorem dX0_init_30 : decode cX0_init 30 = .ok (.putfield 26, 3) := by decide +kernel
theorem dX0_init_33 : decode cX0_init 33 = .ok (.aload_n 0, 1) := by decide +kernel
theorem dX0_init_34 : decode cX0_init 34 = .ok (.iconst 0, 1) := by decide +kernel
theorem dX0_init_35 : decode cX0_init 35 = .ok (.putfield 29, 3) := by decide +kernel
theorem dX0_init_38 : decode cX0_init 38 = .ok (.aload_n 0, 1) := by decide +kernel
theorem dX0_init_39 : decode cX0_init 39 = .ok (.iconst 0, 1) := by decide +kernel
theorem dX0_init_40 : decode cX0_init 40 = .ok (.putfield 32, 3) := by decide +kernel
theorem dX0_init_43 : decode cX0_init 43 = .ok (.aload_n 0, 1) := by decide +kernel
theorem dX0_init_44 : decode cX0_init 44 = .ok (.iconst 0, 1) := by decide +kernel
theorem dX0_init_45 : decode cX0_init 45 = .ok (.putfield 35, 3) := by decide +kernel
theorem dX0_init_48 : decode cX0_init 48 = .ok (.aload_n 0, 1) := by decide +kernel
theorem dX0_init_49 : decode cX0_init 49 = .ok (.iconst 0, 1) := by decide +kernel
theorem dX0_init_50 : decode cX0_init 50 = .ok (.putfield 38, 3) := by decide +kernel
theorem dX0_init_53 : decode cX0_init 53 = .ok (.return_, 1) := by decide +kernel
theorem dX0_append_0 : decode cX0_append 0 = .ok (.aload_n 0, 1) := by decide +kernel
theorem dX0_append_1 : decode cX0_append 1 = .ok (.getfield 15, 3) := by decide +kernel
theorem dX0_append_4 : decode cX0_append 4 = .ok (.bipush 120, 2) := by decide +kernel
theorem dX0_append_6 : decode cX0_append 6 = .ok (.if_icmp .ge 23, 3) := by decide +kernel
theorem dX0_append_9 : decode cX0_append 9 = .ok (.aload_n 0, 1) := by decide +kernel
theorem dX0_append_10 : decode cX0_append 10 = .ok (.getfield 9, 3) := by decide +kernel
theorem dX0_append_13 : decode cX0_append 13 = .ok (.aload_n 0, 1) := by decide +kernel
theorem dX0_append_14 : decode cX0_append 14 = .ok (.getfield 15, 3) := by decide +kernel
theorem dX0_append_17 : decode cX0_append 17 = .ok (.iload_n 1, 1) := by decide +kernel
theorem dX0_append_18 : decode cX0_append 18 = .ok (.iastore, 1) := by decide +kernel
theorem dX0_append_19 : decode cX0_append 19 = .ok (.aload_n 0, 1) := by decide +kernel
theorem dX0_append_20 : decode cX0_append 20 = .ok (.dup, 1) := by decide +kernel
theorem dX0_append_21 : decode cX0_append 21 = .ok (.getfield 15, 3) := by decide +kernel
theorem dX0_append_24 : decode cX0_append 24 = .ok (.iconst 1, 1) := by decide +kernel
theorem dX0_append_25 : decode cX0_append 25 = .ok (.iadd, 1) := by decide +kernel
theorem dX0_append_26 : decode cX0_append 26 = .ok (.putfield 15, 3) := by decide +kernel
theorem dX0_append_29 : decode cX0_append 29 = .ok (.return_, 1) := by decide +kernel
theorem dX0_readAll_0 : decode cX0_readAll 0 = .ok (.aload_n 0, 1) := by decide +kernel
theorem dX0_readAll_1 : decode cX0_readAll 1 = .ok (.iconst 0, 1) := by decide +kernel
theorem dX0_readAll_2 : decode cX0_readAll 2 = .ok (.putfield 35, 3) := by decide +kernel
theorem dX0_readAll_5 : decode cX0_readAll 5 = .ok (.iconst 1, 1) := by decide +kernel
theorem dX0_readAll_6 : decode cX0_readAll 6 = .ok (.istore_n 1, 1) := by decide +kernel
theorem dX0_readAll_7 : decode cX0_readAll 7 = .ok (.iload_n 1, 1) := by decide +kernel
theorem dX0_readAll_8 : decode cX0_readAll 8 = .ok (.bipush 120, 2) := by decide +kernel
theorem dX0_readAll_10 : decode cX0_readAll 10 = .ok (.if_icmp .gt 43, 3) := by decide +kernel
theorem dX0_readAll_13 : decode cX0_readAll 13 = .ok (.aload_n 0, 1) := by decide +kernel
theorem dX0_readAll_14 : decode cX0_readAll 14 = .ok (.invokevirtual 41, 3) := by decide +kernel
theorem dX0_readAll_17 : decode cX0_readAll 17 = .ok (.aload_n 0, 1) := by decide +kernel
theorem dX0_readAll_18 : decode cX0_readAll 18 = .ok (.invokevirtual 44, 3) := by decide +kernel
theorem dX0_readAll_21 : decode cX0_readAll 21 = .ok (.ifCond .ne 6, 3) := by decide +kernel
theorem dX0_readAll_24 : decode cX0_readAll 24 = .ok (.goto 29, 3) := by decide +kernel
theorem dX0_readAll_27 : decode cX0_readAll 27 = .ok (.aload_n 0, 1) := by decide +kernel
theorem dX0_readAll_28 : decode cX0_readAll 28 = .ok (.getfield 29, 3) := by decide +kernel
theorem dX0_readAll_31 : decode cX0_readAll 31 = .ok (.ifCond .ne 5, 3) := by decide +kernel
theorem dX0_readAll_34 : decode cX0_readAll 34 = .ok (.iload_n 1, 1) := by decide +kernel
theorem dX0_readAll_35 : decode cX0_readAll 35 = .ok (.ireturn, 1) := by decide +kernel
theorem dX0_readAll_36 : decode cX0_readAll 36 = .ok (.aload_n 0, 1) := by decide +kernel
theorem dX0_readAll_37 : decode cX0_readAll 37 = .ok (.getfield 29, 3) := by decide +kernel
theorem dX0_readAll_40 : decode cX0_readAll 40 = .ok (.iconst 3, 1) := by decide +kernel
theorem dX0_readAll_41 : decode cX0_readAll 41 = .ok (.if_icmp .eq 6, 3) := by decide +kernel
theorem dX0_readAll_44 : decode cX0_readAll 44 = .ok (.goto 9, 3) := by decide +kernel
theorem dX0_readAll_47 : decode cX0_readAll 47 = .ok (.iinc 1 1, 3) := by decide +kernel
theorem dX0_readAll_50 : decode cX0_readAll 50 = .ok (.goto (-43), 3) := by decide +kernel
theorem dX0_readAll_53 : decode cX0_readAll 53 = .ok (.iconst (-1), 1) := by decide +kernel
theorem dX0_readAll_54 : decode cX0_readAll 54 = .ok (.aload_n 0, 1) := by decide +kernel
theorem dX0_readAll_55 : decode cX0_readAll 55 = .ok (.getfield 32, 3) := by decide +kernel
theorem dX0_readAll_58 : decode cX0_readAll 58 = .ok (.isub, 1) := by decide +kernel
theorem dX0_readAll_59 : decode cX0_readAll 59 = .ok (.ireturn, 1) := by decide +kernel
theorem dX0_advance_0 : decode cX0_advance 0 = .ok (.aload_n 0, 1) := by decide +kernel
theorem dX0_advance_1 : decode cX0_advance 1 = .ok (.aload_n 0, 1) := by decide +kernel
theorem dX0_advance_2 : decode cX0_advance 2 = .ok (.getfield 35, 3) := by decide +kernel
theorem dX0_advance_5 : decode cX0_advance 5 = .ok (.putfield 32, 3) := by decide +kernel
theorem dX0_advance_8 : decode cX0_advance 8 = .ok (.aload_n 0, 1) := by decide +kernel
theorem dX0_advance_9 : decode cX0_advance 9 = .ok (.getfield 32, 3) := by decide +kernel
theorem dX0_advance_12 : decode cX0_advance 12 = .ok (.aload_n 0, 1) := by decide +kernel
theorem dX0_advance_13 : decode cX0_advance 13 = .ok (.getfield 15, 3) := by decide +kernel
theorem dX0_advance_16 : decode cX0_advance 16 = .ok (.if_icmp .ge 29, 3) := by decide +kernel
theorem dX0_advance_19 : decode cX0_advance 19 = .ok (.aload_n 0, 1) := by decide +kernel
theorem dX0_advance_20 : decode cX0_advance 20 = .ok (.aload_n 0, 1) := by decide +kernel
theorem dX0_advance_21 : decode cX0_advance 21 = .ok (.getfield 32, 3) := by decide +kernel
theorem dX0_advance_24 : decode cX0_advance 24 = .ok (.invokevirtual 48, 3) := by decide +kernel
theorem dX0_advance_27 : decode cX0_advance 27 = .ok (.bipush 32, 2) := by decide +kernel
theorem dX0_advance_29 : decode cX0_advance 29 = .ok (.if_icmp .ne 16, 3) := by decide +kernel
theorem dX0_advance_32 : decode cX0_advance 32 = .ok (.aload_n 0, 1) := by decide +kernel
theorem dX0_advance_33 : decode cX0_advance 33 = .ok (.dup, 1) := by decide +kernel
theorem dX0_advance_34 : decode cX0_advance 34 = .ok (.getfield 32, 3) := by decide +kernel
theorem dX0_advance_37 : decode cX0_advance 37 = .ok (.iconst 1, 1) := by decide +kernel
theorem dX0_advance_38 : decode cX0_advance 38 = .ok (.iadd, 1) := by decide +kernel
theorem dX0_advance_39 : decode cX0_advance 39 = .ok (.putfield 32, 3) := by decide +kernel
theorem dX0_advance_42 : decode cX0_advance 42 = .ok (.goto (-34), 3) := by decide +kernel
theorem dX0_advance_45 : decode cX0_advance 45 = .ok (.aload_n 0, 1) := by decide +kernel
theorem dX0_advance_46 : decode cX0_advance 46 = .ok (.aload_n 0, 1) := by decide +kernel
theorem dX0_advance_47 : decode cX0_advance 47 = .ok (.getfield 32, 3) := by decide +kernel
theorem dX0_advance_50 : decode cX0_advance 50 = .ok (.putfield 35, 3) := by decide +kernel
theorem dX0_advance_53 : decode cX0_advance 53 = .ok (.aload_n 0, 1) := by decide +kernel
theorem dX0_advance_54 : decode cX0_advance 54 = .ok (.iconst 0, 1) := by decide +kernel
theorem dX0_advance_55 : decode cX0_advance 55 = .ok (.putfield 38, 3) := by decide +kernel
theorem dX0_advance_58 : decode cX0_advance 58 = .ok (.aload_n 0, 1) := by decide +kernel
theorem dX0_advance_59 : decode cX0_advance 59 = .ok (.getfield 32, 3) := by decide +kernel
theorem dX0_advance_62 : decode cX0_advance 62 = .ok (.aload_n 0, 1) := by decide +kernel
theorem dX0_advance_63 : decode cX0_advance 63 = .ok (.getfield 15, 3) := by decide +kernel
theorem dX0_advance_66 : decode cX0_advance 66 = .ok (.if_icmp .lt 11, 3) := by decide +kernel
theorem dX0_advance_69 : decode cX0_advance 69 = .ok (.aload_n 0, 1) := by decide +kernel
theorem dX0_advance_70 : decode cX0_advance 70 = .ok (.iconst 0, 1) := by decide +kernel
theorem dX0_advance_71 : decode cX0_advance 71 = .ok (.putfield 29, 3) := by decide +kernel
theorem dX0_advance_74 : decode cX0_advance 74 = .ok (.goto 178, 3) := by decide +kernel
theorem dX0_advance_77 : decode cX0_advance 77 = .ok (.aload_n 0, 1) := by decide +kernel
theorem dX0_advance_78 : decode cX0_advance 78 = .ok (.aload_n 0, 1) := by decide +kernel
theorem dX0_advance_79 : decode cX0_advance 79 = .ok (.getfield 32, 3) := by decide +kernel
theorem dX0_advance_82 : decode cX0_advance 82 = .ok (.invokevirtual 48, 3) := by decide +kernel
theorem dX0_advance_85 : decode cX0_advance 85 = .ok (.invokestatic 52, 3) := by decide +kernel
theorem dX0_advance_88 : decode cX0_advance 88 = .ok (.ifCond .eq 46, 3) := by decide +kernel
theorem dX0_advance_91 : decode cX0_advance 91 = .ok (.aload_n 0, 1) := by decide +kernel
theorem dX0_advance_92 : decode cX0_advance 92 = .ok (.iconst 1, 1) := by decide +kernel
theorem dX0_advance_93 : decode cX0_advance 93 = .ok (.putfield 29, 3) := by decide +kernel
theorem dX0_advance_96 : decode cX0_advance 96 = .ok (.aload_n 0, 1) := by decide +kernel
theorem dX0_advance_97 : decode cX0_advance 97 = .ok (.getfield 35, 3) := by decide +kernel
theorem dX0_advance_100 : decode cX0_advance 100 = .ok (.aload_n 0, 1) := by decide +kernel
theorem dX0_advance_101 : decode cX0_advance 101 = .ok (.getfield 15, 3) := by decide +kernel
theorem dX0_advance_104 : decode cX0_advance 104 = .ok (.if_icmp .ge 148, 3) := by decide +kernel
theorem dX0_advance_107 : decode cX0_advance 107 = .ok (.aload_n 0, 1) := by decide +kernel
theorem dX0_advance_108 : decode cX0_advance 108 = .ok (.aload_n 0, 1) := by decide +kernel
theorem dX0_advance_109 : decode cX0_advance 109 = .ok (.getfield 35, 3) := by decide +kernel
theorem dX0_advance_112 : decode cX0_advance 112 = .ok (.invokevirtual 48, 3) := by decide +kernel
theorem dX0_advance_115 : decode cX0_advance 115 = .ok (.invokestatic 52, 3) := by decide +kernel
theorem dX0_advance_118 : decode cX0_advance 118 = .ok (.ifCond .eq 134, 3) := by decide +kernel
theorem dX0_advance_121 : decode cX0_advance 121 = .ok (.aload_n 0, 1) := by decide +kernel
theorem dX0_advance_122 : decode cX0_advance 122 = .ok (.dup, 1) := by decide +kernel
theorem dX0_advance_123 : decode cX0_advance 123 = .ok (.getfield 35, 3) := by decide +kernel
theorem dX0_advance_126 : decode cX0_advance 126 = .ok (.iconst 1, 1) := by decide +kernel
theorem dX0_advance_127 : decode cX0_advance 127 = .ok (.iadd, 1) := by decide +kernel
theorem dX0_advance_128 : decode cX0_advance 128 = .ok (.putfield 35, 3) := by decide +kernel
theorem dX0_advance_131 : decode cX0_advance 131 = .ok (.goto (-35), 3) := by decide +kernel
theorem dX0_advance_134 : decode cX0_advance 134 = .ok (.aload_n 0, 1) := by decide +kernel
theorem dX0_advance_135 : decode cX0_advance 135 = .ok (.aload_n 0, 1) := by decide +kernel
theorem dX0_advance_136 : decode cX0_advance 136 = .ok (.getfield 32, 3) := by decide +kernel
theorem dX0_advance_139 : decode cX0_advance 139 = .ok (.invokevirtual 48, 3) := by decide +kernel
theorem dX0_advance_142 : decode cX0_advance 142 = .ok (.invokestatic 56, 3) := by decide +kernel
theorem dX0_advance_145 : decode cX0_advance 145 = .ok (.ifCond .eq 75, 3) := by decide +kernel
theorem dX0_advance_148 : decode cX0_advance 148 = .ok (.aload_n 0, 1) := by decide +kernel
theorem dX0_advance_149 : decode cX0_advance 149 = .ok (.iconst 2, 1) := by decide +kernel
theorem dX0_advance_150 : decode cX0_advance 150 = .ok (.putfield 29, 3) := by decide +kernel
theorem dX0_advance_153 : decode cX0_advance 153 = .ok (.aload_n 0, 1) := by decide +kernel
theorem dX0_advance_154 : decode cX0_advance 154 = .ok (.getfield 35, 3) := by decide +kernel
theorem dX0_advance_157 : decode cX0_advance 157 = .ok (.aload_n 0, 1) := by decide +kernel
theorem dX0_advance_158 : decode cX0_advance 158 = .ok (.getfield 15, 3) := by decide +kernel
theorem dX0_advance_161 : decode cX0_advance 161 = .ok (.if_icmp .ge 91, 3) := by decide +kernel
theorem dX0_advance_164 : decode cX0_advance 164 = .ok (.aload_n 0, 1) := by decide +kernel
theorem dX0_advance_165 : decode cX0_advance 165 = .ok (.aload_n 0, 1) := by decide +kernel
theorem dX0_advance_166 : decode cX0_advance 166 = .ok (.getfield 35, 3) := by decide +kernel
theorem dX0_advance_169 : decode cX0_advance 169 = .ok (.invokevirtual 48, 3) := by decide +kernel
theorem dX0_advance_172 : decode cX0_advance 172 = .ok (.invokestatic 56, 3) := by decide +kernel
theorem dX0_advance_175 : decode cX0_advance 175 = .ok (.ifCond .eq 77, 3) := by decide +kernel
theorem dX0_advance_178 : decode cX0_advance 178 = .ok (.aload_n 0, 1) := by decide +kernel
theorem dX0_advance_179 : decode cX0_advance 179 = .ok (.sipush 10000, 3) := by decide +kernel
theorem dX0_advance_182 : decode cX0_advance 182 = .ok (.aload_n 0, 1) := by decide +kernel
theorem dX0_advance_183 : decode cX0_advance 183 = .ok (.getfield 38, 3) := by decide +kernel
theorem dX0_advance_186 : decode cX0_advance 186 = .ok (.bipush 10, 2) := by decide +kernel
theorem dX0_advance_188 : decode cX0_advance 188 = .ok (.imul, 1) := by decide +kernel
theorem dX0_advance_189 : decode cX0_advance 189 = .ok (.aload_n 0, 1) := by decide +kernel
theorem dX0_advance_190 : decode cX0_advance 190 = .ok (.aload_n 0, 1) := by decide +kernel
theorem dX0_advance_191 : decode cX0_advance 191 = .ok (.getfield 35, 3) := by decide +kernel
theorem dX0_advance_194 : decode cX0_advance 194 = .ok (.invokevirtual 48, 3) := by decide +kernel
theorem dX0_advance_197 : decode cX0_advance 197 = .ok (.iadd, 1) := by decide +kernel
theorem dX0_advance_198 : decode cX0_advance 198 = .ok (.bipush 48, 2) := by decide +kernel
theorem dX0_advance_200 : decode cX0_advance 200 = .ok (.isub, 1) := by decide +kernel
theorem dX0_advance_201 : decode cX0_advance 201 = .ok (.invokestatic 59, 3) := by decide +kernel
theorem dX0_advance_204 : decode cX0_advance 204 = .ok (.putfield 38, 3) := by decide +kernel
theorem dX0_advance_207 : decode cX0_advance 207 = .ok (.aload_n 0, 1) := by decide +kernel
theorem dX0_advance_208 : decode cX0_advance 208 = .ok (.dup, 1) := by decide +kernel
theorem dX0_advance_209 : decode cX0_advance 209 = .ok (.getfield 35, 3) := by decide +kernel
theorem dX0_advance_212 : decode cX0_advance 212 = .ok (.iconst 1, 1) := by decide +kernel
theorem dX0_advance_213 : decode cX0_advance 213 = .ok (.iadd, 1) := by decide +kernel
theorem dX0_advance_214 : decode cX0_advance 214 = .ok (.putfield 35, 3) := by decide +kernel
theorem dX0_advance_217 : decode cX0_advance 217 = .ok (.goto (-64), 3) := by decide +kernel
theorem dX0_advance_220 : decode cX0_advance 220 = .ok (.aload_n 0, 1) := by decide +kernel
theorem dX0_advance_221 : decode cX0_advance 221 = .ok (.aload_n 0, 1) := by decide +kernel
theorem dX0_advance_222 : decode cX0_advance 222 = .ok (.aload_n 0, 1) := by decide +kernel
theorem dX0_advance_223 : decode cX0_advance 223 = .ok (.getfield 32, 3) := by decide +kernel
theorem dX0_advance_226 : decode cX0_advance 226 = .ok (.invokevirtual 48, 3) := by decide +kernel
theorem dX0_advance_229 : decode cX0_advance 229 = .ok (.bipush 59, 2) := by decide +kernel
theorem dX0_advance_231 : decode cX0_advance 231 = .ok (.if_icmp .ne 7, 3) := by decide +kernel
theorem dX0_advance_234 : decode cX0_advance 234 = .ok (.iconst 3, 1) := by decide +kernel
theorem dX0_advance_235 : decode cX0_advance 235 = .ok (.goto 4, 3) := by decide +kernel
theorem dX0_advance_238 : decode cX0_advance 238 = .ok (.iconst 4, 1) := by decide +kernel
theorem dX0_advance_239 : decode cX0_advance 239 = .ok (.putfield 29, 3) := by decide +kernel
theorem dX0_advance_242 : decode cX0_advance 242 = .ok (.aload_n 0, 1) := by decide +kernel
theorem dX0_advance_243 : decode cX0_advance 243 = .ok (.dup, 1) := by decide +kernel
theorem dX0_advance_244 : decode cX0_advance 244 = .ok (.getfield 35, 3) := by decide +kernel
theorem dX0_advance_247 : decode cX0_advance 247 = .ok (.iconst 1, 1) := by decide +kernel
theorem dX0_advance_248 : decode cX0_advance 248 = .ok (.iadd, 1) := by decide +kernel
theorem dX0_advance_249 : decode cX0_advance 249 = .ok (.putfield 35, 3) := by decide +kernel
theorem dX0_advance_252 : decode cX0_advance 252 = .ok (.return_, 1) := by decide +kernel
theorem dX0_readItem_0 : decode cX0_readItem 0 = .ok (.aload_n 0, 1) := by decide +kernel
theorem dX0_readItem_1 : decode cX0_readItem 1 = .ok (.invokevirtual 65, 3) := by decide +kernel
theorem dX0_readItem_4 : decode cX0_readItem 4 = .ok (.istore_n 1, 1) := by decide +kernel
theorem dX0_readItem_5 : decode cX0_readItem 5 = .ok (.iload_n 1, 1) := by decide +kernel
theorem dX0_readItem_6 : decode cX0_readItem 6 = .ok (.ifCond .lt 27, 3) := by decide +kernel
theorem dX0_readItem_9 : decode cX0_readItem 9 = .ok (.aload_n 0, 1) := by decide +kernel
theorem dX0_readItem_10 : decode cX0_readItem 10 = .ok (.getfield 22, 3) := by decide +kernel
theorem dX0_readItem_13 : decode cX0_readItem 13 = .ok (.invokevirtual 69, 3) := by decide +kernel
theorem dX0_readItem_16 : decode cX0_readItem 16 = .ok (.ifCond .ne 15, 3) := by decide +kernel
theorem dX0_readItem_19 : decode cX0_readItem 19 = .ok (.aload_n 0, 1) := by decide +kernel
theorem dX0_readItem_20 : decode cX0_readItem 20 = .ok (.iload_n 1, 1) := by decide +kernel
theorem dX0_readItem_21 : decode cX0_readItem 21 = .ok (.invokevirtual 72, 3) := by decide +kernel
theorem dX0_readItem_24 : decode cX0_readItem 24 = .ok (.ifCond .eq 7, 3) := by decide +kernel
theorem dX0_readItem_27 : decode cX0_readItem 27 = .ok (.iconst 1, 1) := by decide +kernel
theorem dX0_readItem_28 : decode cX0_readItem 28 = .ok (.goto 4, 3) := by decide +kernel
theorem dX0_readItem_31 : decode cX0_readItem 31 = .ok (.iconst 0, 1) := by decide +kernel
theorem dX0_readItem_32 : decode cX0_readItem 32 = .ok (.ireturn, 1) := by decide +kernel
theorem dX0_readItem_33 : decode cX0_readItem 33 = .ok (.aload_n 0, 1) := by decide +kernel
theorem dX0_readItem_34 : decode cX0_readItem 34 = .ok (.ldc 75, 2) := by decide +kernel
theorem dX0_readItem_36 : decode cX0_readItem 36 = .ok (.invokevirtual 77, 3) := by decide +kernel
theorem dX0_readItem_39 : decode cX0_readItem 39 = .ok (.ifCond .eq 8, 3) := by decide +kernel
theorem dX0_readItem_42 : decode cX0_readItem 42 = .ok (.aload_n 0, 1) := by decide +kernel
theorem dX0_readItem_43 : decode cX0_readItem 43 = .ok (.invokevirtual 81, 3) := by decide +kernel
theorem dX0_readItem_46 : decode cX0_readItem 46 = .ok (.ireturn, 1) := by decide +kernel
theorem dX0_readItem_47 : decode cX0_readItem 47 = .ok (.aload_n 0, 1) := by decide +kernel
theorem dX0_readItem_48 : decode cX0_readItem 48 = .ok (.ldc 84, 2) := by decide +kernel
theorem dX0_readItem_50 : decode cX0_readItem 50 = .ok (.invokevirtual 77, 3) := by decide +kernel
theorem dX0_readItem_53 : decode cX0_readItem 53 = .ok (.ifCond .eq 8, 3) := by decide +kernel
theorem dX0_readItem_56 : decode cX0_readItem 56 = .ok (.aload_n 0, 1) := by decide +kernel
theorem dX0_readItem_57 : decode cX0_readItem 57 = .ok (.invokevirtual 86, 3) := by decide +kernel
theorem dX0_readItem_60 : decode cX0_readItem 60 = .ok (.ireturn, 1) := by decide +kernel
theorem dX0_readItem_61 : decode cX0_readItem 61 = .ok (.aload_n 0, 1) := by decide +kernel
theorem dX0_readItem_62 : decode cX0_readItem 62 = .ok (.ldc 89, 2) := by decide +kernel
theorem dX0_readItem_64 : decode cX0_readItem 64 = .ok (.invokevirtual 77, 3) := by decide +kernel
theorem dX0_readItem_67 : decode cX0_readItem 67 = .ok (.ifCond .ne 12, 3) := by decide +kernel
theorem dX0_readItem_70 : decode cX0_readItem 70 = .ok (.aload_n 0, 1) := by decide +kernel
theorem dX0_readItem_71 : decode cX0_readItem 71 = .ok (.ldc 90, 2) := by decide +kernel
theorem dX0_readItem_73 : decode cX0_readItem 73 = .ok (.invokevirtual 77, 3) := by decide +kernel
theorem dX0_readItem_76 : decode cX0_readItem 76 = .ok (.ifCond .eq 27, 3) := by decide +kernel
theorem dX0_readItem_79 : decode cX0_readItem 79 = .ok (.aload_n 0, 1) := by decide +kernel
theorem dX0_readItem_80 : decode cX0_readItem 80 = .ok (.aload_n 0, 1) := by decide +kernel
theorem dX0_readItem_81 : decode cX0_readItem 81 = .ok (.ldc 89, 2) := by decide +kernel
theorem dX0_readItem_83 : decode cX0_readItem 83 = .ok (.invokevirtual 77, 3) := by decide +kernel
theorem dX0_readItem_86 : decode cX0_readItem 86 = .ok (.ifCond .eq 7, 3) := by decide +kernel
theorem dX0_readItem_89 : decode cX0_readItem 89 = .ok (.iconst 1, 1) := by decide +kernel
theorem dX0_readItem_90 : decode cX0_readItem 90 = .ok (.goto 4, 3) := by decide +kernel
theorem dX0_readItem_93 : decode cX0_readItem 93 = .ok (.iconst 0, 1) := by decide +kernel
theorem dX0_readItem_94 : decode cX0_readItem 94 = .ok (.putfield 26, 3) := by decide +kernel
theorem dX0_readItem_97 : decode cX0_readItem 97 = .ok (.aload_n 0, 1) := by decide +kernel
theorem dX0_readItem_98 : decode cX0_readItem 98 = .ok (.invokevirtual 41, 3) := by decide +kernel
theorem dX0_readItem_101 : decode cX0_readItem 101 = .ok (.iconst 1, 1) := by decide +kernel
theorem dX0_readItem_102 : decode cX0_readItem 102 = .ok (.ireturn, 1) := by decide +kernel
theorem dX0_readItem_103 : decode cX0_readItem 103 = .ok (.iconst 0, 1) := by decide +kernel
theorem dX0_readItem_104 : decode cX0_readItem 104 = .ok (.ireturn, 1) := by decide +kernel
theorem dX0_readStreet_0 : decode cX0_readStreet 0 = .ok (.aload_n 0, 1) := by decide +kernel
theorem dX0_readStreet_1 : decode cX0_readStreet 1 = .ok (.invokevirtual 41, 3) := by decide +kernel
theorem dX0_readStreet_4 : decode cX0_readStreet 4 = .ok (.aload_n 0, 1) := by decide +kernel
theorem dX0_readStreet_5 : decode cX0_readStreet 5 = .ok (.iconst 0, 1) := by decide +kernel
theorem dX0_readStreet_6 : decode cX0_readStreet 6 = .ok (.bipush 7, 2) := by decide +kernel
theorem dX0_readStreet_8 : decode cX0_readStreet 8 = .ok (.invokevirtual 92, 3) := by decide +kernel
theorem dX0_readStreet_11 : decode cX0_readStreet 11 = .ok (.ifCond .ne 5, 3) := by decide +kernel
theorem dX0_readStreet_14 : decode cX0_readStreet 14 = .ok (.iconst 0, 1) := by decide +kernel
theorem dX0_readStreet_15 : decode cX0_readStreet 15 = .ok (.ireturn, 1) := by decide +kernel
theorem dX0_readStreet_16 : decode cX0_readStreet 16 = .ok (.aload_n 0, 1) := by decide +kernel
theorem dX0_readStreet_17 : decode cX0_readStreet 17 = .ok (.getfield 38, 3) := by decide +kernel
theorem dX0_readStreet_20 : decode cX0_readStreet 20 = .ok (.istore_n 2, 1) := by decide +kernel
theorem dX0_readStreet_21 : decode cX0_readStreet 21 = .ok (.aload_n 0, 1) := by decide +kernel
theorem dX0_readStreet_22 : decode cX0_readStreet 22 = .ok (.invokevirtual 41, 3) := by decide +kernel
theorem dX0_readStreet_25 : decode cX0_readStreet 25 = .ok (.aload_n 0, 1) := by decide +kernel
theorem dX0_readStreet_26 : decode cX0_readStreet 26 = .ok (.iconst 0, 1) := by decide +kernel
theorem dX0_readStreet_27 : decode cX0_readStreet 27 = .ok (.bipush 7, 2) := by decide +kernel
theorem dX0_readStreet_29 : decode cX0_readStreet 29 = .ok (.invokevirtual 92, 3) := by decide +kernel
theorem dX0_readStreet_32 : decode cX0_readStreet 32 = .ok (.ifCond .eq 11, 3) := by decide +kernel
theorem dX0_readStreet_35 : decode cX0_readStreet 35 = .ok (.aload_n 0, 1) := by decide +kernel
theorem dX0_readStreet_36 : decode cX0_readStreet 36 = .ok (.getfield 38, 3) := by decide +kernel
theorem dX0_readStreet_39 : decode cX0_readStreet 39 = .ok (.iload_n 2, 1) := by decide +kernel
theorem dX0_readStreet_40 : decode cX0_readStreet 40 = .ok (.if_icmp .ne 5, 3) := by decide +kernel
theorem dX0_readStreet_43 : decode cX0_readStreet 43 = .ok (.iconst 0, 1) := by decide +kernel
theorem dX0_readStreet_44 : decode cX0_readStreet 44 = .ok (.ireturn, 1) := by decide +kernel
theorem dX0_readStreet_45 : decode cX0_readStreet 45 = .ok (.aload_n 0, 1) := by decide +kernel
theorem dX0_readStreet_46 : decode cX0_readStreet 46 = .ok (.getfield 38, 3) := by decide +kernel
theorem dX0_readStreet_49 : decode cX0_readStreet 49 = .ok (.istore_n 3, 1) := by decide +kernel
theorem dX0_readStreet_50 : decode cX0_readStreet 50 = .ok (.aload_n 0, 1) := by decide +kernel
theorem dX0_readStreet_51 : decode cX0_readStreet 51 = .ok (.invokevirtual 41, 3) := by decide +kernel
theorem dX0_readStreet_54 : decode cX0_readStreet 54 = .ok (.iconst 5, 1) := by decide +kernel
theorem dX0_readStreet_55 : decode cX0_readStreet 55 = .ok (.istore 4, 2) := by decide +kernel
theorem dX0_readStreet_57 : decode cX0_readStreet 57 = .ok (.aload_n 0, 1) := by decide +kernel
theorem dX0_readStreet_58 : decode cX0_readStreet 58 = .ok (.ldc 96, 2) := by decide +kernel
theorem dX0_readStreet_60 : decode cX0_readStreet 60 = .ok (.invokevirtual 77, 3) := by decide +kernel
theorem dX0_readStreet_63 : decode cX0_readStreet 63 = .ok (.ifCond .eq 29, 3) := by decide +kernel
theorem dX0_readStreet_66 : decode cX0_readStreet 66 = .ok (.aload_n 0, 1) := by decide +kernel
theorem dX0_readStreet_67 : decode cX0_readStreet 67 = .ok (.invokevirtual 41, 3) := by decide +kernel
theorem dX0_readStreet_70 : decode cX0_readStreet 70 = .ok (.aload_n 0, 1) := by decide +kernel
theorem dX0_readStreet_71 : decode cX0_readStreet 71 = .ok (.iconst 1, 1) := by decide +kernel
theorem dX0_readStreet_72 : decode cX0_readStreet 72 = .ok (.bipush 20, 2) := by decide +kernel
theorem dX0_readStreet_74 : decode cX0_readStreet 74 = .ok (.invokevirtual 92, 3) := by decide +kernel
theorem dX0_readStreet_77 : decode cX0_readStreet 77 = .ok (.ifCond .ne 5, 3) := by decide +kernel
theorem dX0_readStreet_80 : decode cX0_readStreet 80 = .ok (.iconst 0, 1) := by decide +kernel
theorem dX0_readStreet_81 : decode cX0_readStreet 81 = .ok (.ireturn, 1) := by decide +kernel
theorem dX0_readStreet_82 : decode cX0_readStreet 82 = .ok (.aload_n 0, 1) := by decide +kernel
theorem dX0_readStreet_83 : decode cX0_readStreet 83 = .ok (.getfield 38, 3) := by decide +kernel
theorem dX0_readStreet_86 : decode cX0_readStreet 86 = .ok (.istore 4, 2) := by decide +kernel
theorem dX0_readStreet_88 : decode cX0_readStreet 88 = .ok (.aload_n 0, 1) := by decide +kernel
theorem dX0_readStreet_89 : decode cX0_readStreet 89 = .ok (.invokevirtual 41, 3) := by decide +kernel
theorem dX0_readStreet_92 : decode cX0_readStreet 92 = .ok (.iconst 0, 1) := by decide +kernel
theorem dX0_readStreet_93 : decode cX0_readStreet 93 = .ok (.istore 5, 2) := by decide +kernel
theorem dX0_readStreet_95 : decode cX0_readStreet 95 = .ok (.aload_n 0, 1) := by decide +kernel
theorem dX0_readStreet_96 : decode cX0_readStreet 96 = .ok (.ldc 98, 2) := by decide +kernel
theorem dX0_readStreet_98 : decode cX0_readStreet 98 = .ok (.invokevirtual 77, 3) := by decide +kernel
theorem dX0_readStreet_101 : decode cX0_readStreet 101 = .ok (.ifCond .eq 10, 3) := by decide +kernel
theorem dX0_readStreet_104 : decode cX0_readStreet 104 = .ok (.iconst 1, 1) := by decide +kernel
theorem dX0_readStreet_105 : decode cX0_readStreet 105 = .ok (.istore 5, 2) := by decide +kernel
theorem dX0_readStreet_107 : decode cX0_readStreet 107 = .ok (.aload_n 0, 1) := by decide +kernel
theorem dX0_readStreet_108 : decode cX0_readStreet 108 = .ok (.invokevirtual 41, 3) := by decide +kernel
theorem dX0_readStreet_111 : decode cX0_readStreet 111 = .ok (.aload_n 0, 1) := by decide +kernel
theorem dX0_readStreet_112 : decode cX0_readStreet 112 = .ok (.getfield 22, 3) := by decide +kernel
theorem dX0_readStreet_115 : decode cX0_readStreet 115 = .ok (.iload_n 1, 1) := by decide +kernel
theorem dX0_readStreet_116 : decode cX0_readStreet 116 = .ok (.iload_n 2, 1) := by decide +kernel
theorem dX0_readStreet_117 : decode cX0_readStreet 117 = .ok (.iload_n 3, 1) := by decide +kernel
theorem dX0_readStreet_118 : decode cX0_readStreet 118 = .ok (.iload 4, 2) := by decide +kernel
theorem dX0_readStreet_120 : decode cX0_readStreet 120 = .ok (.iload 5, 2) := by decide +kernel
theorem dX0_readStreet_122 : decode cX0_readStreet 122 = .ok (.invokevirtual 100, 3) := by decide +kernel
theorem dX0_readStreet_125 : decode cX0_readStreet 125 = .ok (.pop, 1) := by decide +kernel
theorem dX0_readStreet_126 : decode cX0_readStreet 126 = .ok (.iconst 1, 1) := by decide +kernel
theorem dX0_readStreet_127 : decode cX0_readStreet 127 = .ok (.ireturn, 1) := by decide +kernel
theorem dX0_readSpell_0 : decode cX0_readSpell 0 = .ok (.aload_n 0, 1) := by decide +kernel
theorem dX0_readSpell_1 : decode cX0_readSpell 1 = .ok (.invokevirtual 41, 3) := by decide +kernel
theorem dX0_readSpell_4 : decode cX0_readSpell 4 = .ok (.aload_n 0, 1) := by decide +kernel
theorem dX0_readSpell_5 : decode cX0_readSpell 5 = .ok (.iconst 0, 1) := by decide +kernel
theorem dX0_readSpell_6 : decode cX0_readSpell 6 = .ok (.bipush 11, 2) := by decide +kernel
theorem dX0_readSpell_8 : decode cX0_readSpell 8 = .ok (.invokevirtual 92, 3) := by decide +kernel
theorem dX0_readSpell_11 : decode cX0_readSpell 11 = .ok (.ifCond .ne 5, 3) := by decide +kernel
theorem dX0_readSpell_14 : decode cX0_readSpell 14 = .ok (.iconst 0, 1) := by decide +kernel
theorem dX0_readSpell_15 : decode cX0_readSpell 15 = .ok (.ireturn, 1) := by decide +kernel
theorem dX0_readSpell_16 : decode cX0_readSpell 16 = .ok (.aload_n 0, 1) := by decide +kernel
theorem dX0_readSpell_17 : decode cX0_readSpell 17 = .ok (.getfield 38, 3) := by decide +kernel
theorem dX0_readSpell_20 : decode cX0_readSpell 20 = .ok (.istore_n 1, 1) := by decide +kernel
theorem dX0_readSpell_21 : decode cX0_readSpell 21 = .ok (.aload_n 0, 1) := by decide +kernel
theorem dX0_readSpell_22 : decode cX0_readSpell 22 = .ok (.invokevirtual 41, 3) := by decide +kernel
theorem dX0_readSpell_25 : decode cX0_readSpell 25 = .ok (.aload_n 0, 1) := by decide +kernel
theorem dX0_readSpell_26 : decode cX0_readSpell 26 = .ok (.ldc 104, 2) := by decide +kernel
theorem dX0_readSpell_28 : decode cX0_readSpell 28 = .ok (.aload_n 0, 1) := by decide +kernel
theorem dX0_readSpell_29 : decode cX0_readSpell 29 = .ok (.getfield 22, 3) := by decide +kernel
theorem dX0_readSpell_32 : decode cX0_readSpell 32 = .ok (.getfield 106, 3) := by decide +kernel
theorem dX0_readSpell_35 : decode cX0_readSpell 35 = .ok (.iload_n 1, 1) := by decide +kernel
theorem dX0_readSpell_36 : decode cX0_readSpell 36 = .ok (.invokevirtual 108, 3) := by decide +kernel
theorem dX0_readSpell_39 : decode cX0_readSpell 39 = .ok (.ifCond .eq 24, 3) := by decide +kernel
theorem dX0_readSpell_42 : decode cX0_readSpell 42 = .ok (.aload_n 0, 1) := by decide +kernel
theorem dX0_readSpell_43 : decode cX0_readSpell 43 = .ok (.ldc 112, 2) := by decide +kernel
theorem dX0_readSpell_45 : decode cX0_readSpell 45 = .ok (.aload_n 0, 1) := by decide +kernel
theorem dX0_readSpell_46 : decode cX0_readSpell 46 = .ok (.getfield 22, 3) := by decide +kernel
theorem dX0_readSpell_49 : decode cX0_readSpell 49 = .ok (.getfield 114, 3) := by decide +kernel
theorem dX0_readSpell_52 : decode cX0_readSpell 52 = .ok (.iload_n 1, 1) := by decide +kernel
theorem dX0_readSpell_53 : decode cX0_readSpell 53 = .ok (.invokevirtual 108, 3) := by decide +kernel
theorem dX0_readSpell_56 : decode cX0_readSpell 56 = .ok (.ifCond .eq 7, 3) := by decide +kernel
theorem dX0_readSpell_59 : decode cX0_readSpell 59 = .ok (.iconst 1, 1) := by decide +kernel
theorem dX0_readSpell_60 : decode cX0_readSpell 60 = .ok (.goto 4, 3) := by decide +kernel
theorem dX0_readSpell_63 : decode cX0_readSpell 63 = .ok (.iconst 0, 1) := by decide +kernel
theorem dX0_readSpell_64 : decode cX0_readSpell 64 = .ok (.ireturn, 1) := by decide +kernel
theorem dX0_readWeather_0 : decode cX0_readWeather 0 = .ok (.aload_n 0, 1) := by decide +kernel
theorem dX0_readWeather_1 : decode cX0_readWeather 1 = .ok (.aload_n 1, 1) := by decide +kernel
theorem dX0_readWeather_2 : decode cX0_readWeather 2 = .ok (.invokevirtual 77, 3) := by decide +kernel
theorem dX0_readWeather_5 : decode cX0_readWeather 5 = .ok (.ifCond .ne 5, 3) := by decide +kernel
theorem dX0_readWeather_8 : decode cX0_readWeather 8 = .ok (.iconst 1, 1) := by decide +kernel
theorem dX0_readWeather_9 : decode cX0_readWeather 9 = .ok (.ireturn, 1) := by decide +kernel
theorem dX0_readWeather_10 : decode cX0_readWeather 10 = .ok (.aload_n 0, 1) := by decide +kernel
theorem dX0_readWeather_11 : decode cX0_readWeather 11 = .ok (.invokevirtual 41, 3) := by decide +kernel
theorem dX0_readWeather_14 : decode cX0_readWeather 14 = .ok (.aload_n 0, 1) := by decide +kernel
theorem dX0_readWeather_15 : decode cX0_readWeather 15 = .ok (.iconst 0, 1) := by decide +kernel
theorem dX0_readWeather_16 : decode cX0_readWeather 16 = .ok (.bipush 9, 2) := by decide +kernel
theorem dX0_readWeather_18 : decode cX0_readWeather 18 = .ok (.invokevirtual 92, 3) := by decide +kernel
theorem dX0_readWeather_21 : decode cX0_readWeather 21 = .ok (.ifCond .ne 5, 3) := by decide +kernel
theorem dX0_readWeather_24 : decode cX0_readWeather 24 = .ok (.iconst 0, 1) := by decide +kernel
theorem dX0_readWeather_25 : decode cX0_readWeather 25 = .ok (.ireturn, 1) := by decide +kernel
theorem dX0_readWeather_26 : decode cX0_readWeather 26 = .ok (.aload_n 2, 1) := by decide +kernel
theorem dX0_readWeather_27 : decode cX0_readWeather 27 = .ok (.iload_n 3, 1) := by decide +kernel
theorem dX0_readWeather_28 : decode cX0_readWeather 28 = .ok (.aload_n 0, 1) := by decide +kernel
theorem dX0_readWeather_29 : decode cX0_readWeather 29 = .ok (.getfield 38, 3) := by decide +kernel
theorem dX0_readWeather_32 : decode cX0_readWeather 32 = .ok (.iastore, 1) := by decide +kernel
theorem dX0_readWeather_33 : decode cX0_readWeather 33 = .ok (.aload_n 0, 1) := by decide +kernel
theorem dX0_readWeather_34 : decode cX0_readWeather 34 = .ok (.invokevirtual 41, 3) := by decide +kernel
theorem dX0_readWeather_37 : decode cX0_readWeather 37 = .ok (.iconst 1, 1) := by decide +kernel
theorem dX0_readWeather_38 : decode cX0_readWeather 38 = .ok (.ireturn, 1) := by decide +kernel
theorem dX0_readQuarter_0 : decode cX0_readQuarter 0 = .ok (.aload_n 0, 1) := by decide +kernel
theorem dX0_readQuarter_1 : decode cX0_readQuarter 1 = .ok (.invokevirtual 41, 3) := by decide +kernel
theorem dX0_readQuarter_4 : decode cX0_readQuarter 4 = .ok (.aload_n 0, 1) := by decide +kernel
theorem dX0_readQuarter_5 : decode cX0_readQuarter 5 = .ok (.iconst 0, 1) := by decide +kernel
theorem dX0_readQuarter_6 : decode cX0_readQuarter 6 = .ok (.bipush 7, 2) := by decide +kernel
theorem dX0_readQuarter_8 : decode cX0_readQuarter 8 = .ok (.invokevirtual 92, 3) := by decide +kernel
theorem dX0_readQuarter_11 : decode cX0_readQuarter 11 = .ok (.ifCond .ne 5, 3) := by decide +kernel
theorem dX0_readQuarter_14 : decode cX0_readQuarter 14 = .ok (.iconst 0, 1) := by decide +kernel
theorem dX0_readQuarter_15 : decode cX0_readQuarter 15 = .ok (.ireturn, 1) := by decide +kernel
theorem dX0_readQuarter_16 : decode cX0_readQuarter 16 = .ok (.aload_n 0, 1) := by decide +kernel
theorem dX0_readQuarter_17 : decode cX0_readQuarter 17 = .ok (.getfield 38, 3) := by decide +kernel
theorem dX0_readQuarter_20 : decode cX0_readQuarter 20 = .ok (.istore_n 1, 1) := by decide +kernel
theorem dX0_readQuarter_21 : decode cX0_readQuarter 21 = .ok (.aload_n 0, 1) := by decide +kernel
theorem dX0_readQuarter_22 : decode cX0_readQuarter 22 = .ok (.invokevirtual 41, 3) := by decide +kernel
theorem dX0_readQuarter_25 : decode cX0_readQuarter 25 = .ok (.aload_n 0, 1) := by decide +kernel
theorem dX0_readQuarter_26 : decode cX0_readQuarter 26 = .ok (.iconst 0, 1) := by decide +kernel
theorem dX0_readQuarter_27 : decode cX0_readQuarter 27 = .ok (.iconst 3, 1) := by decide +kernel
theorem dX0_readQuarter_28 : decode cX0_readQuarter 28 = .ok (.invokevirtual 92, 3) := by decide +kernel
theorem dX0_readQuarter_31 : decode cX0_readQuarter 31 = .ok (.ifCond .ne 5, 3) := by decide +kernel
theorem dX0_readQuarter_34 : decode cX0_readQuarter 34 = .ok (.iconst 0, 1) := by decide +kernel
theorem dX0_readQuarter_35 : decode cX0_readQuarter 35 = .ok (.ireturn, 1) := by decide +kernel
theorem dX0_readQuarter_36 : decode cX0_readQuarter 36 = .ok (.aload_n 0, 1) := by decide +kernel
theorem dX0_readQuarter_37 : decode cX0_readQuarter 37 = .ok (.getfield 22, 3) := by decide +kernel
theorem dX0_readQuarter_40 : decode cX0_readQuarter 40 = .ok (.getfield 116, 3) := by decide +kernel
theorem dX0_readQuarter_43 : decode cX0_readQuarter 43 = .ok (.iload_n 1, 1) := by decide +kernel
theorem dX0_readQuarter_44 : decode cX0_readQuarter 44 = .ok (.aload_n 0, 1) := by decide +kernel
theorem dX0_readQuarter_45 : decode cX0_readQuarter 45 = .ok (.getfield 38, 3) := by decide +kernel
theorem dX0_readQuarter_48 : decode cX0_readQuarter 48 = .ok (.iastore, 1) := by decide +kernel
theorem dX0_readQuarter_49 : decode cX0_readQuarter 49 = .ok (.aload_n 0, 1) := by decide +kernel
theorem dX0_readQuarter_50 : decode cX0_readQuarter 50 = .ok (.invokevirtual 41, 3) := by decide +kernel
theorem dX0_readQuarter_53 : decode cX0_readQuarter 53 = .ok (.iconst 1, 1) := by decide +kernel
theorem dX0_readQuarter_54 : decode cX0_readQuarter 54 = .ok (.ireturn, 1) := by decide +kernel
theorem dX0_kindByWord_0 : decode cX0_kindByWord 0 = .ok (.iconst 0, 1) := by decide +kernel
theorem dX0_kindByWord_1 : decode cX0_kindByWord 1 = .ok (.istore_n 1, 1) := by decide +kernel
theorem dX0_kindByWord_2 : decode cX0_kindByWord 2 = .ok (.iload_n 1, 1) := by decide +kernel
theorem dX0_kindByWord_3 : decode cX0_kindByWord 3 = .ok (.bipush 7, 2) := by decide +kernel
theorem dX0_kindByWord_5 : decode cX0_kindByWord 5 = .ok (.if_icmp .ge 22, 3) := by decide +kernel
theorem dX0_kindByWord_8 : decode cX0_kindByWord 8 = .ok (.aload_n 0, 1) := by decide +kernel
theorem dX0_kindByWord_9 : decode cX0_kindByWord 9 = .ok (.iload_n 1, 1) := by decide +kernel
theorem dX0_kindByWord_10 : decode cX0_kindByWord 10 = .ok (.invokestatic 119, 3) := by decide +kernel
theorem dX0_kindByWord_13 : decode cX0_kindByWord 13 = .ok (.invokevirtual 77, 3) := by decide +kernel
theorem dX0_kindByWord_16 : decode cX0_kindByWord 16 = .ok (.ifCond .eq 5, 3) := by decide +kernel
theorem dX0_kindByWord_19 : decode cX0_kindByWord 19 = .ok (.iload_n 1, 1) := by decide +kernel
theorem dX0_kindByWord_20 : decode cX0_kindByWord 20 = .ok (.ireturn, 1) := by decide +kernel
theorem dX0_kindByWord_21 : decode cX0_kindByWord 21 = .ok (.iinc 1 1, 3) := by decide +kernel
theorem dX0_kindByWord_24 : decode cX0_kindByWord 24 = .ok (.goto (-22), 3) := by decide +kernel
theorem dX0_kindByWord_27 : decode cX0_kindByWord 27 = .ok (.iconst (-1), 1) := by decide +kernel
theorem dX0_kindByWord_28 : decode cX0_kindByWord 28 = .ok (.ireturn, 1) := by decide +kernel
theorem dX0_wordFor_0 : decode cX0_wordFor 0 = .ok (.iload_n 0, 1) := by decide +kernel
theorem dX0_wordFor_1 : decode cX0_wordFor 1 = .ok (.tableswitch 57 1 6 #[39, 42, 45, 48, 51, 54], 39) := by decide +kernel
theorem dX0_wordFor_40 : decode cX0_wordFor 40 = .ok (.ldc 123, 2) := by decide +kernel
theorem dX0_wordFor_42 : decode cX0_wordFor 42 = .ok (.areturn, 1) := by decide +kernel
theorem dX0_wordFor_43 : decode cX0_wordFor 43 = .ok (.ldc 125, 2) := by decide +kernel
theorem dX0_wordFor_45 : decode cX0_wordFor 45 = .ok (.areturn, 1) := by decide +kernel
theorem dX0_wordFor_46 : decode cX0_wordFor 46 = .ok (.ldc 127, 2) := by decide +kernel
theorem dX0_wordFor_48 : decode cX0_wordFor 48 = .ok (.areturn, 1) := by decide +kernel
theorem dX0_wordFor_49 : decode cX0_wordFor 49 = .ok (.ldc 129, 2) := by decide +kernel
theorem dX0_wordFor_51 : decode cX0_wordFor 51 = .ok (.areturn, 1) := by decide +kernel
theorem dX0_wordFor_52 : decode cX0_wordFor 52 = .ok (.ldc 131, 2) := by decide +kernel
theorem dX0_wordFor_54 : decode cX0_wordFor 54 = .ok (.areturn, 1) := by decide +kernel
theorem dX0_wordFor_55 : decode cX0_wordFor 55 = .ok (.ldc 133, 2) := by decide +kernel
theorem dX0_wordFor_57 : decode cX0_wordFor 57 = .ok (.areturn, 1) := by decide +kernel
theorem dX0_wordFor_58 : decode cX0_wordFor 58 = .ok (.ldc 135, 2) := by decide +kernel
theorem dX0_wordFor_60 : decode cX0_wordFor 60 = .ok (.areturn, 1) := by decide +kernel
theorem dX0_isWord_0 : decode cX0_isWord 0 = .ok (.aload_n 0, 1) := by decide +kernel
theorem dX0_isWord_1 : decode cX0_isWord 1 = .ok (.getfield 29, 3) := by decide +kernel
theorem dX0_isWord_4 : decode cX0_isWord 4 = .ok (.iconst 1, 1) := by decide +kernel
theorem dX0_isWord_5 : decode cX0_isWord 5 = .ok (.if_icmp .ne 19, 3) := by decide +kernel
theorem dX0_isWord_8 : decode cX0_isWord 8 = .ok (.aload_n 0, 1) := by decide +kernel
theorem dX0_isWord_9 : decode cX0_isWord 9 = .ok (.getfield 35, 3) := by decide +kernel
theorem dX0_isWord_12 : decode cX0_isWord 12 = .ok (.aload_n 0, 1) := by decide +kernel
theorem dX0_isWord_13 : decode cX0_isWord 13 = .ok (.getfield 32, 3) := by decide +kernel
theorem dX0_isWord_16 : decode cX0_isWord 16 = .ok (.isub, 1) := by decide +kernel
theorem dX0_isWord_17 : decode cX0_isWord 17 = .ok (.aload_n 1, 1) := by decide +kernel
theorem dX0_isWord_18 : decode cX0_isWord 18 = .ok (.invokevirtual 137, 3) := by decide +kernel
theorem dX0_isWord_21 : decode cX0_isWord 21 = .ok (.if_icmp .eq 5, 3) := by decide +kernel
theorem dX0_isWord_24 : decode cX0_isWord 24 = .ok (.iconst 0, 1) := by decide +kernel
theorem dX0_isWord_25 : decode cX0_isWord 25 = .ok (.ireturn, 1) := by decide +kernel
theorem dX0_isWord_26 : decode cX0_isWord 26 = .ok (.iconst 0, 1) := by decide +kernel
theorem dX0_isWord_27 : decode cX0_isWord 27 = .ok (.istore_n 2, 1) := by decide +kernel
theorem dX0_isWord_28 : decode cX0_isWord 28 = .ok (.iload_n 2, 1) := by decide +kernel
theorem dX0_isWord_29 : decode cX0_isWord 29 = .ok (.aload_n 1, 1) := by decide +kernel
theorem dX0_isWord_30 : decode cX0_isWord 30 = .ok (.invokevirtual 137, 3) := by decide +kernel
theorem dX0_isWord_33 : decode cX0_isWord 33 = .ok (.if_icmp .ge 29, 3) := by decide +kernel
theorem dX0_isWord_36 : decode cX0_isWord 36 = .ok (.aload_n 0, 1) := by decide +kernel
theorem dX0_isWord_37 : decode cX0_isWord 37 = .ok (.aload_n 0, 1) := by decide +kernel
theorem dX0_isWord_38 : decode cX0_isWord 38 = .ok (.getfield 32, 3) := by decide +kernel
theorem dX0_isWord_41 : decode cX0_isWord 41 = .ok (.iload_n 2, 1) := by decide +kernel
theorem dX0_isWord_42 : decode cX0_isWord 42 = .ok (.iadd, 1) := by decide +kernel
theorem dX0_isWord_43 : decode cX0_isWord 43 = .ok (.invokevirtual 48, 3) := by decide +kernel
theorem dX0_isWord_46 : decode cX0_isWord 46 = .ok (.aload_n 1, 1) := by decide +kernel
theorem dX0_isWord_47 : decode cX0_isWord 47 = .ok (.iload_n 2, 1) := by decide +kernel
theorem dX0_isWord_48 : decode cX0_isWord 48 = .ok (.invokevirtual 142, 3) := by decide +kernel
theorem dX0_isWord_51 : decode cX0_isWord 51 = .ok (.if_icmp .eq 5, 3) := by decide +kernel
theorem dX0_isWord_54 : decode cX0_isWord 54 = .ok (.iconst 0, 1) := by decide +kernel
theorem dX0_isWord_55 : decode cX0_isWord 55 = .ok (.ireturn, 1) := by decide +kernel
theorem dX0_isWord_56 : decode cX0_isWord 56 = .ok (.iinc 2 1, 3) := by decide +kernel
theorem dX0_isWord_59 : decode cX0_isWord 59 = .ok (.goto (-31), 3) := by decide +kernel
theorem dX0_isWord_62 : decode cX0_isWord 62 = .ok (.iconst 1, 1) := by decide +kernel
theorem dX0_isWord_63 : decode cX0_isWord 63 = .ok (.ireturn, 1) := by decide +kernel
theorem dX0_isNumber_0 : decode cX0_isNumber 0 = .ok (.aload_n 0, 1) := by decide +kernel
theorem dX0_isNumber_1 : decode cX0_isNumber 1 = .ok (.getfield 29, 3) := by decide +kernel
theorem dX0_isNumber_4 : decode cX0_isNumber 4 = .ok (.iconst 2, 1) := by decide +kernel
theorem dX0_isNumber_5 : decode cX0_isNumber 5 = .ok (.if_icmp .ne 19, 3) := by decide +kernel
theorem dX0_isNumber_8 : decode cX0_isNumber 8 = .ok (.aload_n 0, 1) := by decide +kernel
theorem dX0_isNumber_9 : decode cX0_isNumber 9 = .ok (.getfield 38, 3) := by decide +kernel
theorem dX0_isNumber_12 : decode cX0_isNumber 12 = .ok (.iload_n 1, 1) := by decide +kernel
theorem dX0_isNumber_13 : decode cX0_isNumber 13 = .ok (.iload_n 2, 1) := by decide +kernel
theorem dX0_isNumber_14 : decode cX0_isNumber 14 = .ok (.invokestatic 146, 3) := by decide +kernel
theorem dX0_isNumber_17 : decode cX0_isNumber 17 = .ok (.ifCond .eq 7, 3) := by decide +kernel
theorem dX0_isNumber_20 : decode cX0_isNumber 20 = .ok (.iconst 1, 1) := by decide +kernel
theorem dX0_isNumber_21 : decode cX0_isNumber 21 = .ok (.goto 4, 3) := by decide +kernel
theorem dX0_isNumber_24 : decode cX0_isNumber 24 = .ok (.iconst 0, 1) := by decide +kernel
theorem dX0_isNumber_25 : decode cX0_isNumber 25 = .ok (.ireturn, 1) := by decide +kernel
theorem dX0_byteAt_0 : decode cX0_byteAt 0 = .ok (.iload_n 1, 1) := by decide +kernel
theorem dX0_byteAt_1 : decode cX0_byteAt 1 = .ok (.ifCond .lt 20, 3) := by decide +kernel
theorem dX0_byteAt_4 : decode cX0_byteAt 4 = .ok (.iload_n 1, 1) := by decide +kernel
theorem dX0_byteAt_5 : decode cX0_byteAt 5 = .ok (.aload_n 0, 1) := by decide +kernel
theorem dX0_byteAt_6 : decode cX0_byteAt 6 = .ok (.getfield 15, 3) := by decide +kernel
theorem dX0_byteAt_9 : decode cX0_byteAt 9 = .ok (.if_icmp .ge 12, 3) := by decide +kernel
theorem dX0_byteAt_12 : decode cX0_byteAt 12 = .ok (.aload_n 0, 1) := by decide +kernel
theorem dX0_byteAt_13 : decode cX0_byteAt 13 = .ok (.getfield 9, 3) := by decide +kernel
theorem dX0_byteAt_16 : decode cX0_byteAt 16 = .ok (.iload_n 1, 1) := by decide +kernel
theorem dX0_byteAt_17 : decode cX0_byteAt 17 = .ok (.iaload, 1) := by decide +kernel
theorem dX0_byteAt_18 : decode cX0_byteAt 18 = .ok (.goto 4, 3) := by decide +kernel
theorem dX0_byteAt_21 : decode cX0_byteAt 21 = .ok (.iconst (-1), 1) := by decide +kernel
theorem dX0_byteAt_22 : decode cX0_byteAt 22 = .ok (.ireturn, 1) := by decide +kernel
theorem dX0_isLetter_0 : decode cX0_isLetter 0 = .ok (.iload_n 0, 1) := by decide +kernel
theorem dX0_isLetter_1 : decode cX0_isLetter 1 = .ok (.bipush 97, 2) := by decide +kernel
theorem dX0_isLetter_3 : decode cX0_isLetter 3 = .ok (.if_icmp .lt 13, 3) := by decide +kernel
theorem dX0_isLetter_6 : decode cX0_isLetter 6 = .ok (.iload_n 0, 1) := by decide +kernel
theorem dX0_isLetter_7 : decode cX0_isLetter 7 = .ok (.bipush 122, 2) := by decide +kernel
theorem dX0_isLetter_9 : decode cX0_isLetter 9 = .ok (.if_icmp .gt 7, 3) := by decide +kernel
theorem dX0_isLetter_12 : decode cX0_isLetter 12 = .ok (.iconst 1, 1) := by decide +kernel
theorem dX0_isLetter_13 : decode cX0_isLetter 13 = .ok (.goto 4, 3) := by decide +kernel
theorem dX0_isLetter_16 : decode cX0_isLetter 16 = .ok (.iconst 0, 1) := by decide +kernel
theorem dX0_isLetter_17 : decode cX0_isLetter 17 = .ok (.ireturn, 1) := by decide +kernel
theorem dX0_isDigit_0 : decode cX0_isDigit 0 = .ok (.iload_n 0, 1) := by decide +kernel
theorem dX0_isDigit_1 : decode cX0_isDigit 1 = .ok (.bipush 48, 2) := by decide +kernel
theorem dX0_isDigit_3 : decode cX0_isDigit 3 = .ok (.if_icmp .lt 13, 3) := by decide +kernel
theorem dX0_isDigit_6 : decode cX0_isDigit 6 = .ok (.iload_n 0, 1) := by decide +kernel
theorem dX0_isDigit_7 : decode cX0_isDigit 7 = .ok (.bipush 57, 2) := by decide +kernel
theorem dX0_isDigit_9 : decode cX0_isDigit 9 = .ok (.if_icmp .gt 7, 3) := by decide +kernel
theorem dX0_isDigit_12 : decode cX0_isDigit 12 = .ok (.iconst 1, 1) := by decide +kernel
theorem dX0_isDigit_13 : decode cX0_isDigit 13 = .ok (.goto 4, 3) := by decide +kernel
theorem dX0_isDigit_16 : decode cX0_isDigit 16 = .ok (.iconst 0, 1) := by decide +kernel
theorem dX0_isDigit_17 : decode cX0_isDigit 17 = .ok (.ireturn, 1) := by decide +kernel
theorem dX1_init_0 : decode cX1_init 0 = .ok (.aload_n 0, 1) := by decide +kernel
theorem dX1_init_1 : decode cX1_init 1 = .ok (.invokespecial 3, 3) := by decide +kernel
theorem dX1_init_4 : decode cX1_init 4 = .ok (.aload_n 0, 1) := by decide +kernel
theorem dX1_init_5 : decode cX1_init 5 = .ok (.iconst 4, 1) := by decide +kernel
theorem dX1_init_6 : decode cX1_init 6 = .ok (.newarray .int, 2) := by decide +kernel
theorem dX1_init_8 : decode cX1_init 8 = .ok (.putfield 9, 3) := by decide +kernel
theorem dX1_init_11 : decode cX1_init 11 = .ok (.aload_n 0, 1) := by decide +kernel
theorem dX1_init_12 : decode cX1_init 12 = .ok (.iconst 0, 1) := by decide +kernel
theorem dX1_init_13 : decode cX1_init 13 = .ok (.putfield 15, 3) := by decide +kernel
theorem dX1_init_16 : decode cX1_init 16 = .ok (.aload_n 0, 1) := by decide +kernel
theorem dX1_init_17 : decode cX1_init 17 = .ok (.iconst 0, 1) := by decide +kernel
theorem dX1_init_18 : decode cX1_init 18 = .ok (.putfield 19, 3) := by decide +kernel
theorem dX1_init_21 : decode cX1_init 21 = .ok (.aload_n 0, 1) := by decide +kernel
theorem dX1_init_22 : decode cX1_init 22 = .ok (.iconst 0, 1) := by decide +kernel
theorem dX1_init_23 : decode cX1_init 23 = .ok (.putfield 22, 3) := by decide +kernel
theorem dX1_init_26 : decode cX1_init 26 = .ok (.aload_n 0, 1) := by decide +kernel
theorem dX1_init_27 : decode cX1_init 27 = .ok (.iconst 0, 1) := by decide +kernel
theorem dX1_init_28 : decode cX1_init 28 = .ok (.putfield 25, 3) := by decide +kernel
theorem dX1_init_31 : decode cX1_init 31 = .ok (.aload_n 0, 1) := by decide +kernel
theorem dX1_init_32 : decode cX1_init 32 = .ok (.iconst 0, 1) := by decide +kernel
theorem dX1_init_33 : decode cX1_init 33 = .ok (.putfield 28, 3) := by decide +kernel
theorem dX1_init_36 : decode cX1_init 36 = .ok (.aload_n 0, 1) := by decide +kernel
theorem dX1_init_37 : decode cX1_init 37 = .ok (.getfield 9, 3) := by decide +kernel
theorem dX1_init_40 : decode cX1_init 40 = .ok (.iconst 0, 1) := by decide +kernel
theorem dX1_init_41 : decode cX1_init 41 = .ok (.bipush 100, 2) := by decide +kernel
theorem dX1_init_43 : decode cX1_init 43 = .ok (.iastore, 1) := by decide +kernel
theorem dX1_init_44 : decode cX1_init 44 = .ok (.aload_n 0, 1) := by decide +kernel
theorem dX1_init_45 : decode cX1_init 45 = .ok (.getfield 9, 3) := by decide +kernel
theorem dX1_init_48 : decode cX1_init 48 = .ok (.iconst 1, 1) := by decide +kernel
theorem dX1_init_49 : decode cX1_init 49 = .ok (.sipush 200, 3) := by decide +kernel
theorem dX1_init_52 : decode cX1_init 52 = .ok (.iastore, 1) := by decide +kernel
theorem dX1_init_53 : decode cX1_init 53 = .ok (.aload_n 0, 1) := by decide +kernel
theorem dX1_init_54 : decode cX1_init 54 = .ok (.getfield 9, 3) := by decide +kernel
theorem dX1_init_57 : decode cX1_init 57 = .ok (.iconst 2, 1) := by decide +kernel
theorem dX1_init_58 : decode cX1_init 58 = .ok (.sipush 200, 3) := by decide +kernel
theorem dX1_init_61 : decode cX1_init 61 = .ok (.iastore, 1) := by decide +kernel
theorem dX1_init_62 : decode cX1_init 62 = .ok (.aload_n 0, 1) := by decide +kernel
theorem dX1_init_63 : decode cX1_init 63 = .ok (.getfield 9, 3) := by decide +kernel
theorem dX1_init_66 : decode cX1_init 66 = .ok (.iconst 3, 1) := by decide +kernel
theorem dX1_init_67 : decode cX1_init 67 = .ok (.sipush 500, 3) := by decide +kernel
theorem dX1_init_70 : decode cX1_init 70 = .ok (.iastore, 1) := by decide +kernel
theorem dX1_init_71 : decode cX1_init 71 = .ok (.return_, 1) := by decide +kernel
theorem dX1_takeFrom_0 : decode cX1_takeFrom 0 = .ok (.aload_n 1, 1) := by decide +kernel
theorem dX1_takeFrom_1 : decode cX1_takeFrom 1 = .ok (.getfield 9, 3) := by decide +kernel
theorem dX1_takeFrom_4 : decode cX1_takeFrom 4 = .ok (.iconst 0, 1) := by decide +kernel
theorem dX1_takeFrom_5 : decode cX1_takeFrom 5 = .ok (.aload_n 0, 1) := by decide +kernel
theorem dX1_takeFrom_6 : decode cX1_takeFrom 6 = .ok (.getfield 9, 3) := by decide +kernel
theorem dX1_takeFrom_9 : decode cX1_takeFrom 9 = .ok (.iconst 0, 1) := by decide +kernel
theorem dX1_takeFrom_10 : decode cX1_takeFrom 10 = .ok (.iconst 4, 1) := by decide +kernel
theorem dX1_takeFrom_11 : decode cX1_takeFrom 11 = .ok (.invokestatic 31, 3) := by decide +kernel
theorem dX1_takeFrom_14 : decode cX1_takeFrom 14 = .ok (.aload_n 0, 1) := by decide +kernel
theorem dX1_takeFrom_15 : decode cX1_takeFrom 15 = .ok (.aload_n 1, 1) := by decide +kernel
theorem dX1_takeFrom_16 : decode cX1_takeFrom 16 = .ok (.getfield 15, 3) := by decide +kernel
theorem dX1_takeFrom_19 : decode cX1_takeFrom 19 = .ok (.putfield 15, 3) := by decide +kernel
theorem dX1_takeFrom_22 : decode cX1_takeFrom 22 = .ok (.aload_n 0, 1) := by decide +kernel
theorem dX1_takeFrom_23 : decode cX1_takeFrom 23 = .ok (.aload_n 1, 1) := by decide +kernel
theorem dX1_takeFrom_24 : decode cX1_takeFrom 24 = .ok (.getfield 19, 3) := by decide +kernel
theorem dX1_takeFrom_27 : decode cX1_takeFrom 27 = .ok (.putfield 19, 3) := by decide +kernel
theorem dX1_takeFrom_30 : decode cX1_takeFrom 30 = .ok (.aload_n 0, 1) := by decide +kernel
theorem dX1_takeFrom_31 : decode cX1_takeFrom 31 = .ok (.aload_n 1, 1) := by decide +kernel
theorem dX1_takeFrom_32 : decode cX1_takeFrom 32 = .ok (.getfield 22, 3) := by decide +kernel
theorem dX1_takeFrom_35 : decode cX1_takeFrom 35 = .ok (.putfield 22, 3) := by decide +kernel
theorem dX1_takeFrom_38 : decode cX1_takeFrom 38 = .ok (.aload_n 0, 1) := by decide +kernel
theorem dX1_takeFrom_39 : decode cX1_takeFrom 39 = .ok (.aload_n 1, 1) := by decide +kernel
theorem dX1_takeFrom_40 : decode cX1_takeFrom 40 = .ok (.getfield 25, 3) := by decide +kernel
theorem dX1_takeFrom_43 : decode cX1_takeFrom 43 = .ok (.putfield 25, 3) := by decide +kernel
theorem dX1_takeFrom_46 : decode cX1_takeFrom 46 = .ok (.aload_n 0, 1) := by decide +kernel
theorem dX1_takeFrom_47 : decode cX1_takeFrom 47 = .ok (.aload_n 1, 1) := by decide +kernel
theorem dX1_takeFrom_48 : decode cX1_takeFrom 48 = .ok (.getfield 28, 3) := by decide +kernel
theorem dX1_takeFrom_51 : decode cX1_takeFrom 51 = .ok (.putfield 28, 3) := by decide +kernel
theorem dX1_takeFrom_54 : decode cX1_takeFrom 54 = .ok (.return_, 1) := by decide +kernel
theorem dX1_total_0 : decode cX1_total 0 = .ok (.aload_n 0, 1) := by decide +kernel
theorem dX1_total_1 : decode cX1_total 1 = .ok (.getfield 9, 3) := by decide +kernel
theorem dX1_total_4 : decode cX1_total 4 = .ok (.invokestatic 37, 3) := by decide +kernel
theorem dX1_total_7 : decode cX1_total 7 = .ok (.ireturn, 1) := by decide +kernel
theorem dX1_faceLasts_0 : decode cX1_faceLasts 0 = .ok (.aload_n 0, 1) := by decide +kernel
theorem dX1_faceLasts_1 : decode cX1_faceLasts 1 = .ok (.getfield 9, 3) := by decide +kernel
theorem dX1_faceLasts_4 : decode cX1_faceLasts 4 = .ok (.iconst 2, 1) := by decide +kernel
theorem dX1_faceLasts_5 : decode cX1_faceLasts 5 = .ok (.iaload, 1) := by decide +kernel
theorem dX1_faceLasts_6 : decode cX1_faceLasts 6 = .ok (.ifCond .ne 7, 3) := by decide +kernel
theorem dX1_faceLasts_9 : decode cX1_faceLasts 9 = .ok (.iconst 0, 1) := by decide +kernel
theorem dX1_faceLasts_10 : decode cX1_faceLasts 10 = .ok (.goto 23, 3) := by decide +kernel
theorem dX1_faceLasts_13 : decode cX1_faceLasts 13 = .ok (.aload_n 0, 1) := by decide +kernel
theorem dX1_faceLasts_14 : decode cX1_faceLasts 14 = .ok (.getfield 9, 3) := by decide +kernel
theorem dX1_faceLasts_17 : decode cX1_faceLasts 17 = .ok (.iconst 0, 1) := by decide +kernel
theorem dX1_faceLasts_18 : decode cX1_faceLasts 18 = .ok (.iaload, 1) := by decide +kernel
theorem dX1_faceLasts_19 : decode cX1_faceLasts 19 = .ok (.aload_n 0, 1) := by decide +kernel
theorem dX1_faceLasts_20 : decode cX1_faceLasts 20 = .ok (.getfield 9, 3) := by decide +kernel
theorem dX1_faceLasts_23 : decode cX1_faceLasts 23 = .ok (.iconst 1, 1) := by decide +kernel
theorem dX1_faceLasts_24 : decode cX1_faceLasts 24 = .ok (.iaload, 1) := by decide +kernel
theorem dX1_faceLasts_25 : decode cX1_faceLasts 25 = .ok (.iadd, 1) := by decide +kernel
theorem dX1_faceLasts_26 : decode cX1_faceLasts 26 = .ok (.aload_n 0, 1) := by decide +kernel
theorem dX1_faceLasts_27 : decode cX1_faceLasts 27 = .ok (.getfield 9, 3) := by decide +kernel
theorem dX1_faceLasts_30 : decode cX1_faceLasts 30 = .ok (.iconst 2, 1) := by decide +kernel
theorem dX1_faceLasts_31 : decode cX1_faceLasts 31 = .ok (.iaload, 1) := by decide +kernel
theorem dX1_faceLasts_32 : decode cX1_faceLasts 32 = .ok (.iadd, 1) := by decide +kernel
theorem dX1_faceLasts_33 : decode cX1_faceLasts 33 = .ok (.ireturn, 1) := by decide +kernel
theorem dX1_melt_0 : decode cX1_melt 0 = .ok (.iload_n 1, 1) := by decide +kernel
theorem dX1_melt_1 : decode cX1_melt 1 = .ok (.istore_n 2, 1) := by decide +kernel
theorem dX1_melt_2 : decode cX1_melt 2 = .ok (.iconst 0, 1) := by decide +kernel
theorem dX1_melt_3 : decode cX1_melt 3 = .ok (.istore_n 3, 1) := by decide +kernel
theorem dX1_melt_4 : decode cX1_melt 4 = .ok (.iload_n 3, 1) := by decide +kernel
theorem dX1_melt_5 : decode cX1_melt 5 = .ok (.iconst 4, 1) := by decide +kernel
theorem dX1_melt_6 : decode cX1_melt 6 = .ok (.if_icmp .ge 37, 3) := by decide +kernel
theorem dX1_melt_9 : decode cX1_melt 9 = .ok (.iload_n 2, 1) := by decide +kernel
theorem dX1_melt_10 : decode cX1_melt 10 = .ok (.aload_n 0, 1) := by decide +kernel
theorem dX1_melt_11 : decode cX1_melt 11 = .ok (.getfield 9, 3) := by decide +kernel
theorem dX1_melt_14 : decode cX1_melt 14 = .ok (.iload_n 3, 1) := by decide +kernel
theorem dX1_melt_15 : decode cX1_melt 15 = .ok (.iaload, 1) := by decide +kernel
theorem dX1_melt_16 : decode cX1_melt 16 = .ok (.invokestatic 41, 3) := by decide +kernel
theorem dX1_melt_19 : decode cX1_melt 19 = .ok (.istore 4, 2) := by decide +kernel
theorem dX1_melt_21 : decode cX1_melt 21 = .ok (.aload_n 0, 1) := by decide +kernel
theorem dX1_melt_22 : decode cX1_melt 22 = .ok (.getfield 9, 3) := by decide +kernel
theorem dX1_melt_25 : decode cX1_melt 25 = .ok (.iload_n 3, 1) := by decide +kernel
theorem dX1_melt_26 : decode cX1_melt 26 = .ok (.dup2, 1) := by decide +kernel
theorem dX1_melt_27 : decode cX1_melt 27 = .ok (.iaload, 1) := by decide +kernel
theorem dX1_melt_28 : decode cX1_melt 28 = .ok (.iload 4, 2) := by decide +kernel
theorem dX1_melt_30 : decode cX1_melt 30 = .ok (.isub, 1) := by decide +kernel
theorem dX1_melt_31 : decode cX1_melt 31 = .ok (.iastore, 1) := by decide +kernel
theorem dX1_melt_32 : decode cX1_melt 32 = .ok (.iload_n 2, 1) := by decide +kernel
theorem dX1_melt_33 : decode cX1_melt 33 = .ok (.iload 4, 2) := by decide +kernel
theorem dX1_melt_35 : decode cX1_melt 35 = .ok (.isub, 1) := by decide +kernel
theorem dX1_melt_36 : decode cX1_melt 36 = .ok (.istore_n 2, 1) := by decide +kernel
theorem dX1_melt_37 : decode cX1_melt 37 = .ok (.iinc 3 1, 3) := by decide +kernel
theorem dX1_melt_40 : decode cX1_melt 40 = .ok (.goto (-36), 3) := by decide +kernel
theorem dX1_melt_43 : decode cX1_melt 43 = .ok (.aload_n 0, 1) := by decide +kernel
theorem dX1_melt_44 : decode cX1_melt 44 = .ok (.dup, 1) := by decide +kernel
theorem dX1_melt_45 : decode cX1_melt 45 = .ok (.getfield 28, 3) := by decide +kernel
theorem dX1_melt_48 : decode cX1_melt 48 = .ok (.iload_n 1, 1) := by decide +kernel
theorem dX1_melt_49 : decode cX1_melt 49 = .ok (.iload_n 2, 1) := by decide +kernel
theorem dX1_melt_50 : decode cX1_melt 50 = .ok (.isub, 1) := by decide +kernel
theorem dX1_melt_51 : decode cX1_melt 51 = .ok (.iadd, 1) := by decide +kernel
theorem dX1_melt_52 : decode cX1_melt 52 = .ok (.putfield 28, 3) := by decide +kernel
theorem dX1_melt_55 : decode cX1_melt 55 = .ok (.iload_n 1, 1) := by decide +kernel
theorem dX1_melt_56 : decode cX1_melt 56 = .ok (.iload_n 2, 1) := by decide +kernel
theorem dX1_melt_57 : decode cX1_melt 57 = .ok (.isub, 1) := by decide +kernel
theorem dX1_melt_58 : decode cX1_melt 58 = .ok (.ireturn, 1) := by decide +kernel
theorem dX1_beginDay_0 : decode cX1_beginDay 0 = .ok (.aload_n 0, 1) := by decide +kernel
theorem dX1_beginDay_1 : decode cX1_beginDay 1 = .ok (.iconst 0, 1) := by decide +kernel
theorem dX1_beginDay_2 : decode cX1_beginDay 2 = .ok (.putfield 22, 3) := by decide +kernel
theorem dX1_beginDay_5 : decode cX1_beginDay 5 = .ok (.aload_n 0, 1) := by decide +kernel
theorem dX1_beginDay_6 : decode cX1_beginDay 6 = .ok (.iconst 0, 1) := by decide +kernel
theorem dX1_beginDay_7 : decode cX1_beginDay 7 = .ok (.putfield 25, 3) := by decide +kernel
theorem dX1_beginDay_10 : decode cX1_beginDay 10 = .ok (.aload_n 0, 1) := by decide +kernel
theorem dX1_beginDay_11 : decode cX1_beginDay 11 = .ok (.iconst 0, 1) := by decide +kernel
theorem dX1_beginDay_12 : decode cX1_beginDay 12 = .ok (.putfield 19, 3) := by decide +kernel
theorem dX1_beginDay_15 : decode cX1_beginDay 15 = .ok (.return_, 1) := by decide +kernel
theorem dX1_remake_0 : decode cX1_remake 0 = .ok (.aload_n 0, 1) := by decide +kernel
theorem dX1_remake_1 : decode cX1_remake 1 = .ok (.invokevirtual 47, 3) := by decide +kernel
theorem dX1_remake_4 : decode cX1_remake 4 = .ok (.istore_n 1, 1) := by decide +kernel
theorem dX1_remake_5 : decode cX1_remake 5 = .ok (.aload_n 0, 1) := by decide +kernel
theorem dX1_remake_6 : decode cX1_remake 6 = .ok (.getfield 9, 3) := by decide +kernel
theorem dX1_remake_9 : decode cX1_remake 9 = .ok (.iconst 0, 1) := by decide +kernel
theorem dX1_remake_10 : decode cX1_remake 10 = .ok (.iload_n 1, 1) := by decide +kernel
theorem dX1_remake_11 : decode cX1_remake 11 = .ok (.bipush 10, 2) := by decide +kernel
theorem dX1_remake_13 : decode cX1_remake 13 = .ok (.idiv, 1) := by decide +kernel
theorem dX1_remake_14 : decode cX1_remake 14 = .ok (.iastore, 1) := by decide +kernel
theorem dX1_remake_15 : decode cX1_remake 15 = .ok (.aload_n 0, 1) := by decide +kernel
theorem dX1_remake_16 : decode cX1_remake 16 = .ok (.getfield 9, 3) := by decide +kernel
theorem dX1_remake_19 : decode cX1_remake 19 = .ok (.iconst 1, 1) := by decide +kernel
theorem dX1_remake_20 : decode cX1_remake 20 = .ok (.iload_n 1, 1) := by decide +kernel
theorem dX1_remake_21 : decode cX1_remake 21 = .ok (.iconst 2, 1) := by decide +kernel
theorem dX1_remake_22 : decode cX1_remake 22 = .ok (.imul, 1) := by decide +kernel
theorem dX1_remake_23 : decode cX1_remake 23 = .ok (.bipush 10, 2) := by decide +kernel
theorem dX1_remake_25 : decode cX1_remake 25 = .ok (.idiv, 1) := by decide +kernel
theorem dX1_remake_26 : decode cX1_remake 26 = .ok (.iastore, 1) := by decide +kernel
theorem dX1_remake_27 : decode cX1_remake 27 = .ok (.aload_n 0, 1) := by decide +kernel
theorem dX1_remake_28 : decode cX1_remake 28 = .ok (.getfield 9, 3) := by decide +kernel
theorem dX1_remake_31 : decode cX1_remake 31 = .ok (.iconst 2, 1) := by decide +kernel
theorem dX1_remake_32 : decode cX1_remake 32 = .ok (.iload_n 1, 1) := by decide +kernel
theorem dX1_remake_33 : decode cX1_remake 33 = .ok (.iconst 2, 1) := by decide +kernel
theorem dX1_remake_34 : decode cX1_remake 34 = .ok (.imul, 1) := by decide +kernel
theorem dX1_remake_35 : decode cX1_remake 35 = .ok (.bipush 10, 2) := by decide +kernel
theorem dX1_remake_37 : decode cX1_remake 37 = .ok (.idiv, 1) := by decide +kernel
theorem dX1_remake_38 : decode cX1_remake 38 = .ok (.iastore, 1) := by decide +kernel
theorem dX1_remake_39 : decode cX1_remake 39 = .ok (.aload_n 0, 1) := by decide +kernel
theorem dX1_remake_40 : decode cX1_remake 40 = .ok (.getfield 9, 3) := by decide +kernel
theorem dX1_remake_43 : decode cX1_remake 43 = .ok (.iconst 3, 1) := by decide +kernel
theorem dX1_remake_44 : decode cX1_remake 44 = .ok (.iload_n 1, 1) := by decide +kernel
theorem dX1_remake_45 : decode cX1_remake 45 = .ok (.aload_n 0, 1) := by decide +kernel
theorem dX1_remake_46 : decode cX1_remake 46 = .ok (.getfield 9, 3) := by decide +kernel
theorem dX1_remake_49 : decode cX1_remake 49 = .ok (.iconst 0, 1) := by decide +kernel
theorem dX1_remake_50 : decode cX1_remake 50 = .ok (.iaload, 1) := by decide +kernel
theorem dX1_remake_51 : decode cX1_remake 51 = .ok (.isub, 1) := by decide +kernel
theorem dX1_remake_52 : decode cX1_remake 52 = .ok (.aload_n 0, 1) := by decide +kernel
theorem dX1_remake_53 : decode cX1_remake 53 = .ok (.getfield 9, 3) := by decide +kernel
theorem dX1_remake_56 : decode cX1_remake 56 = .ok (.iconst 1, 1) := by decide +kernel
theorem dX1_remake_57 : decode cX1_remake 57 = .ok (.iaload, 1) := by decide +kernel
theorem dX1_remake_58 : decode cX1_remake 58 = .ok (.isub, 1) := by decide +kernel
theorem dX1_remake_59 : decode cX1_remake 59 = .ok (.aload_n 0, 1) := by decide +kernel
theorem dX1_remake_60 : decode cX1_remake 60 = .ok (.getfield 9, 3) := by decide +kernel
theorem dX1_remake_63 : decode cX1_remake 63 = .ok (.iconst 2, 1) := by decide +kernel
theorem dX1_remake_64 : decode cX1_remake 64 = .ok (.iaload, 1) := by decide +kernel
theorem dX1_remake_65 : decode cX1_remake 65 = .ok (.isub, 1) := by decide +kernel
theorem dX1_remake_66 : decode cX1_remake 66 = .ok (.iastore, 1) := by decide +kernel
theorem dX1_remake_67 : decode cX1_remake 67 = .ok (.return_, 1) := by decide +kernel
theorem dX2_init_0 : decode cX2_init 0 = .ok (.aload_n 0, 1) := by decide +kernel
theorem dX2_init_1 : decode cX2_init 1 = .ok (.invokespecial 3, 3) := by decide +kernel
theorem dX2_init_4 : decode cX2_init 4 = .ok (.aload_n 0, 1) := by decide +kernel
theorem dX2_init_5 : decode cX2_init 5 = .ok (.new 9, 3) := by decide +kernel
theorem dX2_init_8 : decode cX2_init 8 = .ok (.dup, 1) := by decide +kernel
theorem dX2_init_9 : decode cX2_init 9 = .ok (.invokespecial 11, 3) := by decide +kernel
theorem dX2_init_12 : decode cX2_init 12 = .ok (.putfield 12, 3) := by decide +kernel
theorem dX2_init_15 : decode cX2_init 15 = .ok (.aload_n 0, 1) := by decide +kernel
theorem dX2_init_16 : decode cX2_init 16 = .ok (.new 18, 3) := by decide +kernel
theorem dX2_init_19 : decode cX2_init 19 = .ok (.dup, 1) := by decide +kernel
theorem dX2_init_20 : decode cX2_init 20 = .ok (.invokespecial 20, 3) := by decide +kernel
theorem dX2_init_23 : decode cX2_init 23 = .ok (.putfield 21, 3) := by decide +kernel
theorem dX2_init_26 : decode cX2_init 26 = .ok (.aload_n 0, 1) := by decide +kernel
theorem dX2_init_27 : decode cX2_init 27 = .ok (.bipush 10, 2) := by decide +kernel
theorem dX2_init_29 : decode cX2_init 29 = .ok (.newarray .int, 2) := by decide +kernel
theorem dX2_init_31 : decode cX2_init 31 = .ok (.putfield 25, 3) := by decide +kernel
theorem dX2_init_34 : decode cX2_init 34 = .ok (.aload_n 0, 1) := by decide +kernel
theorem dX2_init_35 : decode cX2_init 35 = .ok (.iconst 1, 1) := by decide +kernel
theorem dX2_init_36 : decode cX2_init 36 = .ok (.putfield 29, 3) := by decide +kernel
theorem dX2_init_39 : decode cX2_init 39 = .ok (.iconst 0, 1) := by decide +kernel
theorem dX2_init_40 : decode cX2_init 40 = .ok (.istore_n 1, 1) := by decide +kernel
theorem dX2_init_41 : decode cX2_init 41 = .ok (.iload_n 1, 1) := by decide +kernel
theorem dX2_init_42 : decode cX2_init 42 = .ok (.bipush 10, 2) := by decide +kernel
theorem dX2_init_44 : decode cX2_init 44 = .ok (.if_icmp .ge 16, 3) := by decide +kernel
theorem dX2_init_47 : decode cX2_init 47 = .ok (.aload_n 0, 1) := by decide +kernel
theorem dX2_init_48 : decode cX2_init 48 = .ok (.getfield 25, 3) := by decide +kernel
theorem dX2_init_51 : decode cX2_init 51 = .ok (.iload_n 1, 1) := by decide +kernel
theorem dX2_init_52 : decode cX2_init 52 = .ok (.iconst (-1), 1) := by decide +kernel
theorem dX2_init_53 : decode cX2_init 53 = .ok (.iastore, 1) := by decide +kernel
theorem dX2_init_54 : decode cX2_init 54 = .ok (.iinc 1 1, 3) := by decide +kernel
theorem dX2_init_57 : decode cX2_init 57 = .ok (.goto (-16), 3) := by decide +kernel
theorem dX2_init_60 : decode cX2_init 60 = .ok (.return_, 1) := by decide +kernel
theorem dX2_takeFrom_0 : decode cX2_takeFrom 0 = .ok (.aload_n 0, 1) := by decide +kernel
theorem dX2_takeFrom_1 : decode cX2_takeFrom 1 = .ok (.getfield 12, 3) := by decide +kernel
theorem dX2_takeFrom_4 : decode cX2_takeFrom 4 = .ok (.aload_n 1, 1) := by decide +kernel
theorem dX2_takeFrom_5 : decode cX2_takeFrom 5 = .ok (.getfield 12, 3) := by decide +kernel
theorem dX2_takeFrom_8 : decode cX2_takeFrom 8 = .ok (.invokevirtual 33, 3) := by decide +kernel
theorem dX2_takeFrom_11 : decode cX2_takeFrom 11 = .ok (.aload_n 0, 1) := by decide +kernel
theorem dX2_takeFrom_12 : decode cX2_takeFrom 12 = .ok (.getfield 21, 3) := by decide +kernel
theorem dX2_takeFrom_15 : decode cX2_takeFrom 15 = .ok (.aload_n 1, 1) := by decide +kernel
theorem dX2_takeFrom_16 : decode cX2_takeFrom 16 = .ok (.getfield 21, 3) := by decide +kernel
theorem dX2_takeFrom_19 : decode cX2_takeFrom 19 = .ok (.invokevirtual 37, 3) := by decide +kernel
theorem dX2_takeFrom_22 : decode cX2_takeFrom 22 = .ok (.aload_n 1, 1) := by decide +kernel
theorem dX2_takeFrom_23 : decode cX2_takeFrom 23 = .ok (.getfield 25, 3) := by decide +kernel
theorem dX2_takeFrom_26 : decode cX2_takeFrom 26 = .ok (.iconst 0, 1) := by decide +kernel
theorem dX2_takeFrom_27 : decode cX2_takeFrom 27 = .ok (.aload_n 0, 1) := by decide +kernel
theorem dX2_takeFrom_28 : decode cX2_takeFrom 28 = .ok (.getfield 25, 3) := by decide +kernel
theorem dX2_takeFrom_31 : decode cX2_takeFrom 31 = .ok (.iconst 0, 1) := by decide +kernel
theorem dX2_takeFrom_32 : decode cX2_takeFrom 32 = .ok (.bipush 10, 2) := by decide +kernel
theorem dX2_takeFrom_34 : decode cX2_takeFrom 34 = .ok (.invokestatic 40, 3) := by decide +kernel
theorem dX2_takeFrom_37 : decode cX2_takeFrom 37 = .ok (.aload_n 0, 1) := by decide +kernel
theorem dX2_takeFrom_38 : decode cX2_takeFrom 38 = .ok (.aload_n 1, 1) := by decide +kernel
theorem dX2_takeFrom_39 : decode cX2_takeFrom 39 = .ok (.getfield 29, 3) := by decide +kernel
theorem dX2_takeFrom_42 : decode cX2_takeFrom 42 = .ok (.putfield 29, 3) := by decide +kernel
theorem dX2_takeFrom_45 : decode cX2_takeFrom 45 = .ok (.return_, 1) := by decide +kernel
theorem dX2_draw_0 : decode cX2_draw 0 = .ok (.aload_n 0, 1) := by decide +kernel
theorem dX2_draw_1 : decode cX2_draw 1 = .ok (.aload_n 0, 1) := by decide +kernel
theorem dX2_draw_2 : decode cX2_draw 2 = .ok (.getfield 29, 3) := by decide +kernel
theorem dX2_draw_5 : decode cX2_draw 5 = .ok (.ldc 46, 2) := by decide +kernel
theorem dX2_draw_7 : decode cX2_draw 7 = .ok (.imul, 1) := by decide +kernel
theorem dX2_draw_8 : decode cX2_draw 8 = .ok (.sipush 12345, 3) := by decide +kernel
theorem dX2_draw_11 : decode cX2_draw 11 = .ok (.iadd, 1) := by decide +kernel
theorem dX2_draw_12 : decode cX2_draw 12 = .ok (.putfield 29, 3) := by decide +kernel
theorem dX2_draw_15 : decode cX2_draw 15 = .ok (.aload_n 0, 1) := by decide +kernel
theorem dX2_draw_16 : decode cX2_draw 16 = .ok (.getfield 29, 3) := by decide +kernel
theorem dX2_draw_19 : decode cX2_draw 19 = .ok (.bipush 8, 2) := by decide +kernel
theorem dX2_draw_21 : decode cX2_draw 21 = .ok (.iushr, 1) := by decide +kernel
theorem dX2_draw_22 : decode cX2_draw 22 = .ok (.ireturn, 1) := by decide +kernel
theorem dX2_drawNeighbour_0 : decode cX2_drawNeighbour 0 = .ok (.aload_n 0, 1) := by decide +kernel
theorem dX2_drawNeighbour_1 : decode cX2_drawNeighbour 1 = .ok (.getfield 12, 3) := by decide +kernel
theorem dX2_drawNeighbour_4 : decode cX2_drawNeighbour 4 = .ok (.aload_n 0, 1) := by decide +kernel
theorem dX2_drawNeighbour_5 : decode cX2_drawNeighbour 5 = .ok (.getfield 21, 3) := by decide +kernel
theorem dX2_drawNeighbour_8 : decode cX2_drawNeighbour 8 = .ok (.getfield 47, 3) := by decide +kernel
theorem dX2_drawNeighbour_11 : decode cX2_drawNeighbour 11 = .ok (.invokevirtual 50, 3) := by decide +kernel
theorem dX2_drawNeighbour_14 : decode cX2_drawNeighbour 14 = .ok (.istore_n 1, 1) := by decide +kernel
theorem dX2_drawNeighbour_15 : decode cX2_drawNeighbour 15 = .ok (.iload_n 1, 1) := by decide +kernel
theorem dX2_drawNeighbour_16 : decode cX2_drawNeighbour 16 = .ok (.invokestatic 54, 3) := by decide +kernel
theorem dX2_drawNeighbour_19 : decode cX2_drawNeighbour 19 = .ok (.istore_n 2, 1) := by decide +kernel
theorem dX2_drawNeighbour_20 : decode cX2_drawNeighbour 20 = .ok (.iload_n 2, 1) := by decide +kernel
theorem dX2_drawNeighbour_21 : decode cX2_drawNeighbour 21 = .ok (.ifCond .ne 5, 3) := by decide +kernel
theorem dX2_drawNeighbour_24 : decode cX2_drawNeighbour 24 = .ok (.iconst (-1), 1) := by decide +kernel
theorem dX2_drawNeighbour_25 : decode cX2_drawNeighbour 25 = .ok (.ireturn, 1) := by decide +kernel
theorem dX2_drawNeighbour_26 : decode cX2_drawNeighbour 26 = .ok (.aload_n 0, 1) := by decide +kernel
theorem dX2_drawNeighbour_27 : decode cX2_drawNeighbour 27 = .ok (.invokevirtual 59, 3) := by decide +kernel
theorem dX2_drawNeighbour_30 : decode cX2_drawNeighbour 30 = .ok (.iload_n 2, 1) := by decide +kernel
theorem dX2_drawNeighbour_31 : decode cX2_drawNeighbour 31 = .ok (.irem, 1) := by decide +kernel
theorem dX2_drawNeighbour_32 : decode cX2_drawNeighbour 32 = .ok (.istore_n 3, 1) := by decide +kernel
theorem dX2_drawNeighbour_33 : decode cX2_drawNeighbour 33 = .ok (.iconst 0, 1) := by decide +kernel
theorem dX2_drawNeighbour_34 : decode cX2_drawNeighbour 34 = .ok (.istore 4, 2) := by decide +kernel
theorem dX2_drawNeighbour_36 : decode cX2_drawNeighbour 36 = .ok (.iload 4, 2) := by decide +kernel
theorem dX2_drawNeighbour_38 : decode cX2_drawNeighbour 38 = .ok (.bipush 8, 2) := by decide +kernel
theorem dX2_drawNeighbour_40 : decode cX2_drawNeighbour 40 = .ok (.if_icmp .ge 28, 3) := by decide +kernel
theorem dX2_drawNeighbour_43 : decode cX2_drawNeighbour 43 = .ok (.iload_n 1, 1) := by decide +kernel
theorem dX2_drawNeighbour_44 : decode cX2_drawNeighbour 44 = .ok (.iload 4, 2) := by decide +kernel
theorem dX2_drawNeighbour_46 : decode cX2_drawNeighbour 46 = .ok (.invokestatic 63, 3) := by decide +kernel
theorem dX2_drawNeighbour_49 : decode cX2_drawNeighbour 49 = .ok (.ifCond .eq 13, 3) := by decide +kernel
theorem dX2_drawNeighbour_52 : decode cX2_drawNeighbour 52 = .ok (.iload_n 3, 1) := by decide +kernel
theorem dX2_drawNeighbour_53 : decode cX2_drawNeighbour 53 = .ok (.ifCond .ne 6, 3) := by decide +kernel
theorem dX2_drawNeighbour_56 : decode cX2_drawNeighbour 56 = .ok (.iload 4, 2) := by decide +kernel
theorem dX2_drawNeighbour_58 : decode cX2_drawNeighbour 58 = .ok (.ireturn, 1) := by decide +kernel
theorem dX2_drawNeighbour_59 : decode cX2_drawNeighbour 59 = .ok (.iinc 3 (-1), 3) := by decide +kernel
theorem dX2_drawNeighbour_62 : decode cX2_drawNeighbour 62 = .ok (.iinc 4 1, 3) := by decide +kernel
theorem dX2_drawNeighbour_65 : decode cX2_drawNeighbour 65 = .ok (.goto (-29), 3) := by decide +kernel
theorem dX2_drawNeighbour_68 : decode cX2_drawNeighbour 68 = .ok (.iconst (-1), 1) := by decide +kernel
theorem dX2_drawNeighbour_69 : decode cX2_drawNeighbour 69 = .ok (.ireturn, 1) := by decide +kernel
theorem dX2_isTooLate_0 : decode cX2_isTooLate 0 = .ok (.aload_n 0, 1) := by decide +kernel
theorem dX2_isTooLate_1 : decode cX2_isTooLate 1 = .ok (.getfield 21, 3) := by decide +kernel
theorem dX2_isTooLate_4 : decode cX2_isTooLate 4 = .ok (.getfield 67, 3) := by decide +kernel
theorem dX2_isTooLate_7 : decode cX2_isTooLate 7 = .ok (.aload_n 0, 1) := by decide +kernel
theorem dX2_isTooLate_8 : decode cX2_isTooLate 8 = .ok (.getfield 12, 3) := by decide +kernel
theorem dX2_isTooLate_11 : decode cX2_isTooLate 11 = .ok (.getfield 70, 3) := by decide +kernel
theorem dX2_isTooLate_14 : decode cX2_isTooLate 14 = .ok (.iload_n 1, 1) := by decide +kernel
theorem dX2_isTooLate_15 : decode cX2_isTooLate 15 = .ok (.aaload, 1) := by decide +kernel
theorem dX2_isTooLate_16 : decode cX2_isTooLate 16 = .ok (.invokevirtual 74, 3) := by decide +kernel
theorem dX2_isTooLate_19 : decode cX2_isTooLate 19 = .ok (.iadd, 1) := by decide +kernel
theorem dX2_isTooLate_20 : decode cX2_isTooLate 20 = .ok (.sipush 999, 3) := by decide +kernel
theorem dX2_isTooLate_23 : decode cX2_isTooLate 23 = .ok (.if_icmp .le 7, 3) := by decide +kernel
theorem dX2_isTooLate_26 : decode cX2_isTooLate 26 = .ok (.iconst 1, 1) := by decide +kernel
theorem dX2_isTooLate_27 : decode cX2_isTooLate 27 = .ok (.goto 4, 3) := by decide +kernel
theorem dX2_isTooLate_30 : decode cX2_isTooLate 30 = .ok (.iconst 0, 1) := by decide +kernel
theorem dX2_isTooLate_31 : decode cX2_isTooLate 31 = .ok (.ireturn, 1) := by decide +kernel
theorem dX2_carryAlong_0 : decode cX2_carryAlong 0 = .ok (.aload_n 0, 1) := by decide +kernel
theorem dX2_carryAlong_1 : decode cX2_carryAlong 1 = .ok (.getfield 21, 3) := by decide +kernel
theorem dX2_carryAlong_4 : decode cX2_carryAlong 4 = .ok (.aload_n 0, 1) := by decide +kernel
theorem dX2_carryAlong_5 : decode cX2_carryAlong 5 = .ok (.getfield 12, 3) := by decide +kernel
theorem dX2_carryAlong_8 : decode cX2_carryAlong 8 = .ok (.iload_n 1, 1) := by decide +kernel
theorem dX2_carryAlong_9 : decode cX2_carryAlong 9 = .ok (.aload_n 0, 1) := by decide +kernel
theorem dX2_carryAlong_10 : decode cX2_carryAlong 10 = .ok (.getfield 21, 3) := by decide +kernel
theorem dX2_carryAlong_13 : decode cX2_carryAlong 13 = .ok (.getfield 67, 3) := by decide +kernel
theorem dX2_carryAlong_16 : decode cX2_carryAlong 16 = .ok (.aload_n 0, 1) := by decide +kernel
theorem dX2_carryAlong_17 : decode cX2_carryAlong 17 = .ok (.getfield 21, 3) := by decide +kernel
theorem dX2_carryAlong_20 : decode cX2_carryAlong 20 = .ok (.getfield 79, 3) := by decide +kernel
theorem dX2_carryAlong_23 : decode cX2_carryAlong 23 = .ok (.invokevirtual 82, 3) := by decide +kernel
theorem dX2_carryAlong_26 : decode cX2_carryAlong 26 = .ok (.invokevirtual 86, 3) := by decide +kernel
theorem dX2_carryAlong_29 : decode cX2_carryAlong 29 = .ok (.istore_n 3, 1) := by decide +kernel
theorem dX2_carryAlong_30 : decode cX2_carryAlong 30 = .ok (.aload_n 0, 1) := by decide +kernel
theorem dX2_carryAlong_31 : decode cX2_carryAlong 31 = .ok (.getfield 21, 3) := by decide +kernel
theorem dX2_carryAlong_34 : decode cX2_carryAlong 34 = .ok (.dup, 1) := by decide +kernel
theorem dX2_carryAlong_35 : decode cX2_carryAlong 35 = .ok (.getfield 67, 3) := by decide +kernel
theorem dX2_carryAlong_38 : decode cX2_carryAlong 38 = .ok (.aload_n 0, 1) := by decide +kernel
theorem dX2_carryAlong_39 : decode cX2_carryAlong 39 = .ok (.getfield 12, 3) := by decide +kernel
theorem dX2_carryAlong_42 : decode cX2_carryAlong 42 = .ok (.getfield 70, 3) := by decide +kernel
theorem dX2_carryAlong_45 : decode cX2_carryAlong 45 = .ok (.iload_n 1, 1) := by decide +kernel
theorem dX2_carryAlong_46 : decode cX2_carryAlong 46 = .ok (.aaload, 1) := by decide +kernel
theorem dX2_carryAlong_47 : decode cX2_carryAlong 47 = .ok (.invokevirtual 74, 3) := by decide +kernel
theorem dX2_carryAlong_50 : decode cX2_carryAlong 50 = .ok (.iadd, 1) := by decide +kernel
theorem dX2_carryAlong_51 : decode cX2_carryAlong 51 = .ok (.putfield 67, 3) := by decide +kernel
theorem dX2_carryAlong_54 : decode cX2_carryAlong 54 = .ok (.aload_n 0, 1) := by decide +kernel
theorem dX2_carryAlong_55 : decode cX2_carryAlong 55 = .ok (.getfield 21, 3) := by decide +kernel
theorem dX2_carryAlong_58 : decode cX2_carryAlong 58 = .ok (.iload_n 2, 1) := by decide +kernel
theorem dX2_carryAlong_59 : decode cX2_carryAlong 59 = .ok (.putfield 47, 3) := by decide +kernel
theorem dX2_carryAlong_62 : decode cX2_carryAlong 62 = .ok (.aload_n 0, 1) := by decide +kernel
theorem dX2_carryAlong_63 : decode cX2_carryAlong 63 = .ok (.getfield 21, 3) := by decide +kernel
theorem dX2_carryAlong_66 : decode cX2_carryAlong 66 = .ok (.getfield 89, 3) := by decide +kernel
theorem dX2_carryAlong_69 : decode cX2_carryAlong 69 = .ok (.iconst 2, 1) := by decide +kernel
theorem dX2_carryAlong_70 : decode cX2_carryAlong 70 = .ok (.iaload, 1) := by decide +kernel
theorem dX2_carryAlong_71 : decode cX2_carryAlong 71 = .ok (.ifCond .le 26, 3) := by decide +kernel
theorem dX2_carryAlong_74 : decode cX2_carryAlong 74 = .ok (.aload_n 0, 1) := by decide +kernel
theorem dX2_carryAlong_75 : decode cX2_carryAlong 75 = .ok (.getfield 21, 3) := by decide +kernel
theorem dX2_carryAlong_78 : decode cX2_carryAlong 78 = .ok (.dup, 1) := by decide +kernel
theorem dX2_carryAlong_79 : decode cX2_carryAlong 79 = .ok (.getfield 92, 3) := by decide +kernel
theorem dX2_carryAlong_82 : decode cX2_carryAlong 82 = .ok (.iconst 1, 1) := by decide +kernel
theorem dX2_carryAlong_83 : decode cX2_carryAlong 83 = .ok (.aload_n 0, 1) := by decide +kernel
theorem dX2_carryAlong_84 : decode cX2_carryAlong 84 = .ok (.getfield 12, 3) := by decide +kernel
theorem dX2_carryAlong_87 : decode cX2_carryAlong 87 = .ok (.getfield 95, 3) := by decide +kernel
theorem dX2_carryAlong_90 : decode cX2_carryAlong 90 = .ok (.iload_n 2, 1) := by decide +kernel
theorem dX2_carryAlong_91 : decode cX2_carryAlong 91 = .ok (.iaload, 1) := by decide +kernel
theorem dX2_carryAlong_92 : decode cX2_carryAlong 92 = .ok (.ishl, 1) := by decide +kernel
theorem dX2_carryAlong_93 : decode cX2_carryAlong 93 = .ok (.ior, 1) := by decide +kernel
theorem dX2_carryAlong_94 : decode cX2_carryAlong 94 = .ok (.putfield 92, 3) := by decide +kernel
theorem dX2_carryAlong_97 : decode cX2_carryAlong 97 = .ok (.iload_n 3, 1) := by decide +kernel
theorem dX2_carryAlong_98 : decode cX2_carryAlong 98 = .ok (.ireturn, 1) := by decide +kernel
theorem dX2_spotsHeld_0 : decode cX2_spotsHeld 0 = .ok (.iconst 0, 1) := by decide +kernel
theorem dX2_spotsHeld_1 : decode cX2_spotsHeld 1 = .ok (.istore_n 1, 1) := by decide +kernel
theorem dX2_spotsHeld_2 : decode cX2_spotsHeld 2 = .ok (.aload_n 0, 1) := by decide +kernel
theorem dX2_spotsHeld_3 : decode cX2_spotsHeld 3 = .ok (.getfield 25, 3) := by decide +kernel
theorem dX2_spotsHeld_6 : decode cX2_spotsHeld 6 = .ok (.astore_n 2, 1) := by decide +kernel
theorem dX2_spotsHeld_7 : decode cX2_spotsHeld 7 = .ok (.aload_n 2, 1) := by decide +kernel
theorem dX2_spotsHeld_8 : decode cX2_spotsHeld 8 = .ok (.arraylength, 1) := by decide +kernel
theorem dX2_spotsHeld_9 : decode cX2_spotsHeld 9 = .ok (.istore_n 3, 1) := by decide +kernel
theorem dX2_spotsHeld_10 : decode cX2_spotsHeld 10 = .ok (.iconst 0, 1) := by decide +kernel
theorem dX2_spotsHeld_11 : decode cX2_spotsHeld 11 = .ok (.istore 4, 2) := by decide +kernel
theorem dX2_spotsHeld_13 : decode cX2_spotsHeld 13 = .ok (.iload 4, 2) := by decide +kernel
theorem dX2_spotsHeld_15 : decode cX2_spotsHeld 15 = .ok (.iload_n 3, 1) := by decide +kernel
theorem dX2_spotsHeld_16 : decode cX2_spotsHeld 16 = .ok (.if_icmp .ge 23, 3) := by decide +kernel
theorem dX2_spotsHeld_19 : decode cX2_spotsHeld 19 = .ok (.aload_n 2, 1) := by decide +kernel
theorem dX2_spotsHeld_20 : decode cX2_spotsHeld 20 = .ok (.iload 4, 2) := by decide +kernel
theorem dX2_spotsHeld_22 : decode cX2_spotsHeld 22 = .ok (.iaload, 1) := by decide +kernel
theorem dX2_spotsHeld_23 : decode cX2_spotsHeld 23 = .ok (.istore 5, 2) := by decide +kernel
theorem dX2_spotsHeld_25 : decode cX2_spotsHeld 25 = .ok (.iload 5, 2) := by decide +kernel
theorem dX2_spotsHeld_27 : decode cX2_spotsHeld 27 = .ok (.ifCond .lt 6, 3) := by decide +kernel
theorem dX2_spotsHeld_30 : decode cX2_spotsHeld 30 = .ok (.iinc 1 1, 3) := by decide +kernel
theorem dX2_spotsHeld_33 : decode cX2_spotsHeld 33 = .ok (.iinc 4 1, 3) := by decide +kernel
theorem dX2_spotsHeld_36 : decode cX2_spotsHeld 36 = .ok (.goto (-23), 3) := by decide +kernel
theorem dX2_spotsHeld_39 : decode cX2_spotsHeld 39 = .ok (.iload_n 1, 1) := by decide +kernel
theorem dX2_spotsHeld_40 : decode cX2_spotsHeld 40 = .ok (.ireturn, 1) := by decide +kernel
theorem dX3_init_0 : decode cX3_init 0 = .ok (.aload_n 0, 1) := by decide +kernel
theorem dX3_init_1 : decode cX3_init 1 = .ok (.invokespecial 3, 3) := by decide +kernel
theorem dX3_init_4 : decode cX3_init 4 = .ok (.aload_n 0, 1) := by decide +kernel
theorem dX3_init_5 : decode cX3_init 5 = .ok (.bipush 64, 2) := by decide +kernel
theorem dX3_init_7 : decode cX3_init 7 = .ok (.newarray .int, 2) := by decide +kernel
theorem dX3_init_9 : decode cX3_init 9 = .ok (.putfield 9, 3) := by decide +kernel
theorem dX3_init_12 : decode cX3_init 12 = .ok (.aload_n 0, 1) := by decide +kernel
theorem dX3_init_13 : decode cX3_init 13 = .ok (.bipush 14, 2) := by decide +kernel
theorem dX3_init_15 : decode cX3_init 15 = .ok (.newarray .int, 2) := by decide +kernel
theorem dX3_init_17 : decode cX3_init 17 = .ok (.putfield 15, 3) := by decide +kernel
theorem dX3_init_20 : decode cX3_init 20 = .ok (.aload_n 0, 1) := by decide +kernel
theorem dX3_init_21 : decode cX3_init 21 = .ok (.sipush 168, 3) := by decide +kernel
theorem dX3_init_24 : decode cX3_init 24 = .ok (.newarray .int, 2) := by decide +kernel
theorem dX3_init_26 : decode cX3_init 26 = .ok (.putfield 18, 3) := by decide +kernel
theorem dX3_init_29 : decode cX3_init 29 = .ok (.aload_n 0, 1) := by decide +kernel
theorem dX3_init_30 : decode cX3_init 30 = .ok (.bipush 8, 2) := by decide +kernel
theorem dX3_init_32 : decode cX3_init 32 = .ok (.newarray .int, 2) := by decide +kernel
theorem dX3_init_34 : decode cX3_init 34 = .ok (.putfield 21, 3) := by decide +kernel
theorem dX3_init_37 : decode cX3_init 37 = .ok (.aload_n 0, 1) := by decide +kernel
theorem dX3_init_38 : decode cX3_init 38 = .ok (.iconst 0, 1) := by decide +kernel
theorem dX3_init_39 : decode cX3_init 39 = .ok (.putfield 24, 3) := by decide +kernel
theorem dX3_init_42 : decode cX3_init 42 = .ok (.aload_n 0, 1) := by decide +kernel
theorem dX3_init_43 : decode cX3_init 43 = .ok (.iconst 0, 1) := by decide +kernel
theorem dX3_init_44 : decode cX3_init 44 = .ok (.putfield 28, 3) := by decide +kernel
theorem dX3_init_47 : decode cX3_init 47 = .ok (.aload_n 0, 1) := by decide +kernel
theorem dX3_init_48 : decode cX3_init 48 = .ok (.iconst 0, 1) := by decide +kernel
theorem dX3_init_49 : decode cX3_init 49 = .ok (.putfield 31, 3) := by decide +kernel
theorem dX3_init_52 : decode cX3_init 52 = .ok (.aload_n 0, 1) := by decide +kernel
theorem dX3_init_53 : decode cX3_init 53 = .ok (.iconst 0, 1) := by decide +kernel
theorem dX3_init_54 : decode cX3_init 54 = .ok (.putfield 34, 3) := by decide +kernel
theorem dX3_init_57 : decode cX3_init 57 = .ok (.aload_n 0, 1) := by decide +kernel
theorem dX3_init_58 : decode cX3_init 58 = .ok (.iconst 0, 1) := by decide +kernel
theorem dX3_init_59 : decode cX3_init 59 = .ok (.putfield 37, 3) := by decide +kernel
theorem dX3_init_62 : decode cX3_init 62 = .ok (.aload_n 0, 1) := by decide +kernel
theorem dX3_init_63 : decode cX3_init 63 = .ok (.iconst (-1), 1) := by decide +kernel
theorem dX3_init_64 : decode cX3_init 64 = .ok (.putfield 40, 3) := by decide +kernel
theorem dX3_init_67 : decode cX3_init 67 = .ok (.aload_n 0, 1) := by decide +kernel
theorem dX3_init_68 : decode cX3_init 68 = .ok (.iconst 0, 1) := by decide +kernel
theorem dX3_init_69 : decode cX3_init 69 = .ok (.putfield 43, 3) := by decide +kernel
theorem dX3_init_72 : decode cX3_init 72 = .ok (.aload_n 0, 1) := by decide +kernel
theorem dX3_init_73 : decode cX3_init 73 = .ok (.bipush 7, 2) := by decide +kernel
theorem dX3_init_75 : decode cX3_init 75 = .ok (.newarray .int, 2) := by decide +kernel
theorem dX3_init_77 : decode cX3_init 77 = .ok (.putfield 46, 3) := by decide +kernel
theorem dX3_init_80 : decode cX3_init 80 = .ok (.aload_n 0, 1) := by decide +kernel
theorem dX3_init_81 : decode cX3_init 81 = .ok (.iconst 0, 1) := by decide +kernel
theorem dX3_init_82 : decode cX3_init 82 = .ok (.putfield 49, 3) := by decide +kernel
theorem dX3_init_85 : decode cX3_init 85 = .ok (.aload_n 0, 1) := by decide +kernel
theorem dX3_init_86 : decode cX3_init 86 = .ok (.iconst (-1), 1) := by decide +kernel
theorem dX3_init_87 : decode cX3_init 87 = .ok (.putfield 52, 3) := by decide +kernel
theorem dX3_init_90 : decode cX3_init 90 = .ok (.aload_n 0, 1) := by decide +kernel
theorem dX3_init_91 : decode cX3_init 91 = .ok (.iconst 0, 1) := by decide +kernel
theorem dX3_init_92 : decode cX3_init 92 = .ok (.putfield 55, 3) := by decide +kernel
theorem dX3_init_95 : decode cX3_init 95 = .ok (.aload_n 0, 1) := by decide +kernel
theorem dX3_init_96 : decode cX3_init 96 = .ok (.bipush 7, 2) := by decide +kernel
theorem dX3_init_98 : decode cX3_init 98 = .ok (.newarray .int, 2) := by decide +kernel
theorem dX3_init_100 : decode cX3_init 100 = .ok (.putfield 58, 3) := by decide +kernel
theorem dX3_init_103 : decode cX3_init 103 = .ok (.aload_n 0, 1) := by decide +kernel
theorem dX3_init_104 : decode cX3_init 104 = .ok (.iconst 0, 1) := by decide +kernel
theorem dX3_init_105 : decode cX3_init 105 = .ok (.putfield 61, 3) := by decide +kernel
theorem dX3_init_108 : decode cX3_init 108 = .ok (.return_, 1) := by decide +kernel
theorem dX3_prepare_0 : decode cX3_prepare 0 = .ok (.aload_n 0, 1) := by decide +kernel
theorem dX3_prepare_1 : decode cX3_prepare 1 = .ok (.getfield 9, 3) := by decide +kernel
theorem dX3_prepare_4 : decode cX3_prepare 4 = .ok (.iconst (-1), 1) := by decide +kernel
theorem dX3_prepare_5 : decode cX3_prepare 5 = .ok (.invokestatic 64, 3) := by decide +kernel
theorem dX3_prepare_8 : decode cX3_prepare 8 = .ok (.aload_n 1, 1) := by decide +kernel
theorem dX3_prepare_9 : decode cX3_prepare 9 = .ok (.getfield 70, 3) := by decide +kernel
theorem dX3_prepare_12 : decode cX3_prepare 12 = .ok (.iconst 1, 1) := by decide +kernel
theorem dX3_prepare_13 : decode cX3_prepare 13 = .ok (.isub, 1) := by decide +kernel
theorem dX3_prepare_14 : decode cX3_prepare 14 = .ok (.istore 5, 2) := by decide +kernel
theorem dX3_prepare_16 : decode cX3_prepare 16 = .ok (.iload 5, 2) := by decide +kernel
theorem dX3_prepare_18 : decode cX3_prepare 18 = .ok (.ifCond .lt 95, 3) := by decide +kernel
theorem dX3_prepare_21 : decode cX3_prepare 21 = .ok (.aload_n 1, 1) := by decide +kernel
theorem dX3_prepare_22 : decode cX3_prepare 22 = .ok (.getfield 75, 3) := by decide +kernel
theorem dX3_prepare_25 : decode cX3_prepare 25 = .ok (.iload 5, 2) := by decide +kernel
theorem dX3_prepare_27 : decode cX3_prepare 27 = .ok (.aaload, 1) := by decide +kernel
theorem dX3_prepare_28 : decode cX3_prepare 28 = .ok (.astore 6, 2) := by decide +kernel
theorem dX3_prepare_30 : decode cX3_prepare 30 = .ok (.aload_n 0, 1) := by decide +kernel
theorem dX3_prepare_31 : decode cX3_prepare 31 = .ok (.getfield 15, 3) := by decide +kernel
theorem dX3_prepare_34 : decode cX3_prepare 34 = .ok (.iload 5, 2) := by decide +kernel
theorem dX3_prepare_36 : decode cX3_prepare 36 = .ok (.aload 6, 2) := by decide +kernel
theorem dX3_prepare_38 : decode cX3_prepare 38 = .ok (.invokevirtual 79, 3) := by decide +kernel
theorem dX3_prepare_41 : decode cX3_prepare 41 = .ok (.iastore, 1) := by decide +kernel
theorem dX3_prepare_42 : decode cX3_prepare 42 = .ok (.aload_n 1, 1) := by decide +kernel
theorem dX3_prepare_43 : decode cX3_prepare 43 = .ok (.iload 5, 2) := by decide +kernel
theorem dX3_prepare_45 : decode cX3_prepare 45 = .ok (.iload_n 3, 1) := by decide +kernel
theorem dX3_prepare_46 : decode cX3_prepare 46 = .ok (.aload_n 0, 1) := by decide +kernel
theorem dX3_prepare_47 : decode cX3_prepare 47 = .ok (.getfield 18, 3) := by decide +kernel
theorem dX3_prepare_50 : decode cX3_prepare 50 = .ok (.bipush 12, 2) := by decide +kernel
theorem dX3_prepare_52 : decode cX3_prepare 52 = .ok (.iload 5, 2) := by decide +kernel
theorem dX3_prepare_54 : decode cX3_prepare 54 = .ok (.imul, 1) := by decide +kernel
theorem dX3_prepare_55 : decode cX3_prepare 55 = .ok (.invokevirtual 84, 3) := by decide +kernel
theorem dX3_prepare_58 : decode cX3_prepare 58 = .ok (.iload 5, 2) := by decide +kernel
theorem dX3_prepare_60 : decode cX3_prepare 60 = .ok (.iload 4, 2) := by decide +kernel
theorem dX3_prepare_62 : decode cX3_prepare 62 = .ok (.if_icmp .eq 45, 3) := by decide +kernel
theorem dX3_prepare_65 : decode cX3_prepare 65 = .ok (.aload_n 0, 1) := by decide +kernel
theorem dX3_prepare_66 : decode cX3_prepare 66 = .ok (.getfield 9, 3) := by decide +kernel
theorem dX3_prepare_69 : decode cX3_prepare 69 = .ok (.bipush 8, 2) := by decide +kernel
theorem dX3_prepare_71 : decode cX3_prepare 71 = .ok (.aload 6, 2) := by decide +kernel
theorem dX3_prepare_73 : decode cX3_prepare 73 = .ok (.getfield 88, 3) := by decide +kernel
theorem dX3_prepare_76 : decode cX3_prepare 76 = .ok (.imul, 1) := by decide +kernel
theorem dX3_prepare_77 : decode cX3_prepare 77 = .ok (.aload 6, 2) := by decide +kernel
theorem dX3_prepare_79 : decode cX3_prepare 79 = .ok (.getfield 91, 3) := by decide +kernel
theorem dX3_prepare_82 : decode cX3_prepare 82 = .ok (.iadd, 1) := by decide +kernel
theorem dX3_prepare_83 : decode cX3_prepare 83 = .ok (.iload 5, 2) := by decide +kernel
theorem dX3_prepare_85 : decode cX3_prepare 85 = .ok (.iastore, 1) := by decide +kernel
theorem dX3_prepare_86 : decode cX3_prepare 86 = .ok (.aload_n 0, 1) := by decide +kernel
theorem dX3_prepare_87 : decode cX3_prepare 87 = .ok (.getfield 9, 3) := by decide +kernel
theorem dX3_prepare_90 : decode cX3_prepare 90 = .ok (.bipush 8, 2) := by decide +kernel
theorem dX3_prepare_92 : decode cX3_prepare 92 = .ok (.aload 6, 2) := by decide +kernel
theorem dX3_prepare_94 : decode cX3_prepare 94 = .ok (.getfield 91, 3) := by decide +kernel
theorem dX3_prepare_97 : decode cX3_prepare 97 = .ok (.imul, 1) := by decide +kernel
theorem dX3_prepare_98 : decode cX3_prepare 98 = .ok (.aload 6, 2) := by decide +kernel
theorem dX3_prepare_100 : decode cX3_prepare 100 = .ok (.getfield 88, 3) := by decide +kernel
theorem dX3_prepare_103 : decode cX3_prepare 103 = .ok (.iadd, 1) := by decide +kernel
theorem dX3_prepare_104 : decode cX3_prepare 104 = .ok (.iload 5, 2) := by decide +kernel
theorem dX3_prepare_106 : decode cX3_prepare 106 = .ok (.iastore, 1) := by decide +kernel
theorem dX3_prepare_107 : decode cX3_prepare 107 = .ok (.iinc 5 (-1), 3) := by decide +kernel
theorem dX3_prepare_110 : decode cX3_prepare 110 = .ok (.goto (-94), 3) := by decide +kernel
theorem dX3_prepare_113 : decode cX3_prepare 113 = .ok (.aload_n 1, 1) := by decide +kernel
theorem dX3_prepare_114 : decode cX3_prepare 114 = .ok (.getfield 94, 3) := by decide +kernel
theorem dX3_prepare_117 : decode cX3_prepare 117 = .ok (.iconst 0, 1) := by decide +kernel
theorem dX3_prepare_118 : decode cX3_prepare 118 = .ok (.aload_n 0, 1) := by decide +kernel
theorem dX3_prepare_119 : decode cX3_prepare 119 = .ok (.getfield 21, 3) := by decide +kernel
theorem dX3_prepare_122 : decode cX3_prepare 122 = .ok (.iconst 0, 1) := by decide +kernel
theorem dX3_prepare_123 : decode cX3_prepare 123 = .ok (.bipush 8, 2) := by decide +kernel
theorem dX3_prepare_125 : decode cX3_prepare 125 = .ok (.invokestatic 95, 3) := by decide +kernel
theorem dX3_prepare_128 : decode cX3_prepare 128 = .ok (.aload_n 0, 1) := by decide +kernel
theorem dX3_prepare_129 : decode cX3_prepare 129 = .ok (.aload_n 1, 1) := by decide +kernel
theorem dX3_prepare_130 : decode cX3_prepare 130 = .ok (.invokevirtual 101, 3) := by decide +kernel
theorem dX3_prepare_133 : decode cX3_prepare 133 = .ok (.putfield 24, 3) := by decide +kernel
theorem dX3_prepare_136 : decode cX3_prepare 136 = .ok (.aload_n 0, 1) := by decide +kernel
theorem dX3_prepare_137 : decode cX3_prepare 137 = .ok (.aload_n 2, 1) := by decide +kernel
theorem dX3_prepare_138 : decode cX3_prepare 138 = .ok (.getfield 104, 3) := by decide +kernel
theorem dX3_prepare_141 : decode cX3_prepare 141 = .ok (.putfield 28, 3) := by decide +kernel
theorem dX3_prepare_144 : decode cX3_prepare 144 = .ok (.aload_n 0, 1) := by decide +kernel
theorem dX3_prepare_145 : decode cX3_prepare 145 = .ok (.aload_n 2, 1) := by decide +kernel
theorem dX3_prepare_146 : decode cX3_prepare 146 = .ok (.invokevirtual 109, 3) := by decide +kernel
theorem dX3_prepare_149 : decode cX3_prepare 149 = .ok (.putfield 31, 3) := by decide +kernel
theorem dX3_prepare_152 : decode cX3_prepare 152 = .ok (.aload_n 0, 1) := by decide +kernel
theorem dX3_prepare_153 : decode cX3_prepare 153 = .ok (.aload_n 2, 1) := by decide +kernel
theorem dX3_prepare_154 : decode cX3_prepare 154 = .ok (.invokevirtual 111, 3) := by decide +kernel
theorem dX3_prepare_157 : decode cX3_prepare 157 = .ok (.putfield 34, 3) := by decide +kernel
theorem dX3_prepare_160 : decode cX3_prepare 160 = .ok (.aload_n 0, 1) := by decide +kernel
theorem dX3_prepare_161 : decode cX3_prepare 161 = .ok (.aload_n 2, 1) := by decide +kernel
theorem dX3_prepare_162 : decode cX3_prepare 162 = .ok (.getfield 113, 3) := by decide +kernel
theorem dX3_prepare_165 : decode cX3_prepare 165 = .ok (.putfield 37, 3) := by decide +kernel
theorem dX3_prepare_168 : decode cX3_prepare 168 = .ok (.return_, 1) := by decide +kernel
theorem dX3_seek_0 : decode cX3_seek 0 = .ok (.aload_n 0, 1) := by decide +kernel
theorem dX3_seek_1 : decode cX3_seek 1 = .ok (.iload_n 1, 1) := by decide +kernel
theorem dX3_seek_2 : decode cX3_seek 2 = .ok (.putfield 40, 3) := by decide +kernel
theorem dX3_seek_5 : decode cX3_seek 5 = .ok (.aload_n 0, 1) := by decide +kernel
theorem dX3_seek_6 : decode cX3_seek 6 = .ok (.iload_n 2, 1) := by decide +kernel
theorem dX3_seek_7 : decode cX3_seek 7 = .ok (.putfield 43, 3) := by decide +kernel
theorem dX3_seek_10 : decode cX3_seek 10 = .ok (.aload_n 0, 1) := by decide +kernel
theorem dX3_seek_11 : decode cX3_seek 11 = .ok (.iconst 0, 1) := by decide +kernel
theorem dX3_seek_12 : decode cX3_seek 12 = .ok (.putfield 49, 3) := by decide +kernel
theorem dX3_seek_15 : decode cX3_seek 15 = .ok (.aload_n 0, 1) := by decide +kernel
theorem dX3_seek_16 : decode cX3_seek 16 = .ok (.iconst (-1), 1) := by decide +kernel
theorem dX3_seek_17 : decode cX3_seek 17 = .ok (.putfield 52, 3) := by decide +kernel
theorem dX3_seek_20 : decode cX3_seek 20 = .ok (.aload_n 0, 1) := by decide +kernel
theorem dX3_seek_21 : decode cX3_seek 21 = .ok (.iconst 0, 1) := by decide +kernel
theorem dX3_seek_22 : decode cX3_seek 22 = .ok (.putfield 55, 3) := by decide +kernel
theorem dX3_seek_25 : decode cX3_seek 25 = .ok (.aload_n 0, 1) := by decide +kernel
theorem dX3_seek_26 : decode cX3_seek 26 = .ok (.iconst 0, 1) := by decide +kernel
theorem dX3_seek_27 : decode cX3_seek 27 = .ok (.putfield 61, 3) := by decide +kernel
theorem dX3_seek_30 : decode cX3_seek 30 = .ok (.aload_n 0, 1) := by decide +kernel
theorem dX3_seek_31 : decode cX3_seek 31 = .ok (.aload_n 0, 1) := by decide +kernel
theorem dX3_seek_32 : decode cX3_seek 32 = .ok (.getfield 28, 3) := by decide +kernel
theorem dX3_seek_35 : decode cX3_seek 35 = .ok (.iload_n 2, 1) := by decide +kernel
theorem dX3_seek_36 : decode cX3_seek 36 = .ok (.iconst 0, 1) := by decide +kernel
theorem dX3_seek_37 : decode cX3_seek 37 = .ok (.aload_n 0, 1) := by decide +kernel
theorem dX3_seek_38 : decode cX3_seek 38 = .ok (.getfield 37, 3) := by decide +kernel
theorem dX3_seek_41 : decode cX3_seek 41 = .ok (.iconst 1, 1) := by decide +kernel
theorem dX3_seek_42 : decode cX3_seek 42 = .ok (.aload_n 0, 1) := by decide +kernel
theorem dX3_seek_43 : decode cX3_seek 43 = .ok (.getfield 28, 3) := by decide +kernel
theorem dX3_seek_46 : decode cX3_seek 46 = .ok (.ishl, 1) := by decide +kernel
theorem dX3_seek_47 : decode cX3_seek 47 = .ok (.iconst 0, 1) := by decide +kernel
theorem dX3_seek_48 : decode cX3_seek 48 = .ok (.invokevirtual 116, 3) := by decide +kernel
theorem dX3_seek_51 : decode cX3_seek 51 = .ok (.return_, 1) := by decide +kernel
theorem dX3_walk_0 : decode cX3_walk 0 = .ok (.iload_n 1, 1) := by decide +kernel
theorem dX3_walk_1 : decode cX3_walk 1 = .ok (.aload_n 0, 1) := by decide +kernel
theorem dX3_walk_2 : decode cX3_walk 2 = .ok (.getfield 40, 3) := by decide +kernel
theorem dX3_walk_5 : decode cX3_walk 5 = .ok (.if_icmp .ne 12, 3) := by decide +kernel
theorem dX3_walk_8 : decode cX3_walk 8 = .ok (.aload_n 0, 1) := by decide +kernel
theorem dX3_walk_9 : decode cX3_walk 9 = .ok (.iload_n 2, 1) := by decide +kernel
theorem dX3_walk_10 : decode cX3_walk 10 = .ok (.iload_n 3, 1) := by decide +kernel
theorem dX3_walk_11 : decode cX3_walk 11 = .ok (.iload 6, 2) := by decide +kernel
theorem dX3_walk_13 : decode cX3_walk 13 = .ok (.invokevirtual 120, 3) := by decide +kernel
theorem dX3_walk_16 : decode cX3_walk 16 = .ok (.return_, 1) := by decide +kernel
theorem dX3_walk_17 : decode cX3_walk 17 = .ok (.aload_n 0, 1) := by decide +kernel
theorem dX3_walk_18 : decode cX3_walk 18 = .ok (.getfield 40, 3) := by decide +kernel
theorem dX3_walk_21 : decode cX3_walk 21 = .ok (.iconst (-1), 1) := by decide +kernel
theorem dX3_walk_22 : decode cX3_walk 22 = .ok (.if_icmp .ne 19, 3) := by decide +kernel
theorem dX3_walk_25 : decode cX3_walk 25 = .ok (.iload 6, 2) := by decide +kernel
theorem dX3_walk_27 : decode cX3_walk 27 = .ok (.ifCond .le 14, 3) := by decide +kernel
theorem dX3_walk_30 : decode cX3_walk 30 = .ok (.aload_n 0, 1) := by decide +kernel
theorem dX3_walk_31 : decode cX3_walk 31 = .ok (.iload_n 1, 1) := by decide +kernel
theorem dX3_walk_32 : decode cX3_walk 32 = .ok (.iload_n 2, 1) := by decide +kernel
theorem dX3_walk_33 : decode cX3_walk 33 = .ok (.iload_n 3, 1) := by decide +kernel
theorem dX3_walk_34 : decode cX3_walk 34 = .ok (.iload 4, 2) := by decide +kernel
theorem dX3_walk_36 : decode cX3_walk 36 = .ok (.iload 6, 2) := by decide +kernel
theorem dX3_walk_38 : decode cX3_walk 38 = .ok (.invokevirtual 124, 3) := by decide +kernel
theorem dX3_walk_41 : decode cX3_walk 41 = .ok (.iload 6, 2) := by decide +kernel
theorem dX3_walk_43 : decode cX3_walk 43 = .ok (.aload_n 0, 1) := by decide +kernel
theorem dX3_walk_44 : decode cX3_walk 44 = .ok (.getfield 46, 3) := by decide +kernel
theorem dX3_walk_47 : decode cX3_walk 47 = .ok (.arraylength, 1) := by decide +kernel
theorem dX3_walk_48 : decode cX3_walk 48 = .ok (.if_icmp .lt 4, 3) := by decide +kernel
theorem dX3_walk_51 : decode cX3_walk 51 = .ok (.return_, 1) := by decide +kernel
theorem dX3_walk_52 : decode cX3_walk 52 = .ok (.iconst 0, 1) := by decide +kernel
theorem dX3_walk_53 : decode cX3_walk 53 = .ok (.istore 7, 2) := by decide +kernel
theorem dX3_walk_55 : decode cX3_walk 55 = .ok (.iload 7, 2) := by decide +kernel
theorem dX3_walk_57 : decode cX3_walk 57 = .ok (.bipush 8, 2) := by decide +kernel
theorem dX3_walk_59 : decode cX3_walk 59 = .ok (.if_icmp .ge 109, 3) := by decide +kernel
theorem dX3_walk_62 : decode cX3_walk 62 = .ok (.aload_n 0, 1) := by decide +kernel
theorem dX3_walk_63 : decode cX3_walk 63 = .ok (.getfield 9, 3) := by decide +kernel
theorem dX3_walk_66 : decode cX3_walk 66 = .ok (.bipush 8, 2) := by decide +kernel
theorem dX3_walk_68 : decode cX3_walk 68 = .ok (.iload_n 1, 1) := by decide +kernel
theorem dX3_walk_69 : decode cX3_walk 69 = .ok (.imul, 1) := by decide +kernel
theorem dX3_walk_70 : decode cX3_walk 70 = .ok (.iload 7, 2) := by decide +kernel
theorem dX3_walk_72 : decode cX3_walk 72 = .ok (.iadd, 1) := by decide +kernel
theorem dX3_walk_73 : decode cX3_walk 73 = .ok (.iaload, 1) := by decide +kernel
theorem dX3_walk_74 : decode cX3_walk 74 = .ok (.istore 8, 2) := by decide +kernel
theorem dX3_walk_76 : decode cX3_walk 76 = .ok (.iload 8, 2) := by decide +kernel
theorem dX3_walk_78 : decode cX3_walk 78 = .ok (.ifCond .lt 84, 3) := by decide +kernel
theorem dX3_walk_81 : decode cX3_walk 81 = .ok (.iload 5, 2) := by decide +kernel
theorem dX3_walk_83 : decode cX3_walk 83 = .ok (.iload 7, 2) := by decide +kernel
theorem dX3_walk_85 : decode cX3_walk 85 = .ok (.invokestatic 128, 3) := by decide +kernel
theorem dX3_walk_88 : decode cX3_walk 88 = .ok (.ifCond .ne 74, 3) := by decide +kernel
theorem dX3_walk_91 : decode cX3_walk 91 = .ok (.aload_n 0, 1) := by decide +kernel
theorem dX3_walk_92 : decode cX3_walk 92 = .ok (.getfield 46, 3) := by decide +kernel
theorem dX3_walk_95 : decode cX3_walk 95 = .ok (.iload 6, 2) := by decide +kernel
theorem dX3_walk_97 : decode cX3_walk 97 = .ok (.iload 7, 2) := by decide +kernel
theorem dX3_walk_99 : decode cX3_walk 99 = .ok (.iastore, 1) := by decide +kernel
theorem dX3_walk_100 : decode cX3_walk 100 = .ok (.iload_n 3, 1) := by decide +kernel
theorem dX3_walk_101 : decode cX3_walk 101 = .ok (.aload_n 0, 1) := by decide +kernel
theorem dX3_walk_102 : decode cX3_walk 102 = .ok (.getfield 18, 3) := by decide +kernel
theorem dX3_walk_105 : decode cX3_walk 105 = .ok (.bipush 12, 2) := by decide +kernel
theorem dX3_walk_107 : decode cX3_walk 107 = .ok (.iload 8, 2) := by decide +kernel
theorem dX3_walk_109 : decode cX3_walk 109 = .ok (.imul, 1) := by decide +kernel
theorem dX3_walk_110 : decode cX3_walk 110 = .ok (.iload_n 2, 1) := by decide +kernel
theorem dX3_walk_111 : decode cX3_walk 111 = .ok (.aload_n 0, 1) := by decide +kernel
theorem dX3_walk_112 : decode cX3_walk 112 = .ok (.getfield 15, 3) := by decide +kernel
theorem dX3_walk_115 : decode cX3_walk 115 = .ok (.iload 8, 2) := by decide +kernel
theorem dX3_walk_117 : decode cX3_walk 117 = .ok (.iaload, 1) := by decide +kernel
theorem dX3_walk_118 : decode cX3_walk 118 = .ok (.invokestatic 132, 3) := by decide +kernel
theorem dX3_walk_121 : decode cX3_walk 121 = .ok (.iadd, 1) := by decide +kernel
theorem dX3_walk_122 : decode cX3_walk 122 = .ok (.istore 9, 2) := by decide +kernel
theorem dX3_walk_124 : decode cX3_walk 124 = .ok (.aload_n 0, 1) := by decide +kernel
theorem dX3_walk_125 : decode cX3_walk 125 = .ok (.iload 7, 2) := by decide +kernel
theorem dX3_walk_127 : decode cX3_walk 127 = .ok (.iload_n 2, 1) := by decide +kernel
theorem dX3_walk_128 : decode cX3_walk 128 = .ok (.aload_n 0, 1) := by decide +kernel
theorem dX3_walk_129 : decode cX3_walk 129 = .ok (.getfield 15, 3) := by decide +kernel
theorem dX3_walk_132 : decode cX3_walk 132 = .ok (.iload 8, 2) := by decide +kernel
theorem dX3_walk_134 : decode cX3_walk 134 = .ok (.iaload, 1) := by decide +kernel
theorem dX3_walk_135 : decode cX3_walk 135 = .ok (.iadd, 1) := by decide +kernel
theorem dX3_walk_136 : decode cX3_walk 136 = .ok (.iload 9, 2) := by decide +kernel
theorem dX3_walk_138 : decode cX3_walk 138 = .ok (.aload_n 0, 1) := by decide +kernel
theorem dX3_walk_139 : decode cX3_walk 139 = .ok (.iload 7, 2) := by decide +kernel
theorem dX3_walk_141 : decode cX3_walk 141 = .ok (.iload 9, 2) := by decide +kernel
theorem dX3_walk_143 : decode cX3_walk 143 = .ok (.iload 4, 2) := by decide +kernel
theorem dX3_walk_145 : decode cX3_walk 145 = .ok (.invokevirtual 136, 3) := by decide +kernel
theorem dX3_walk_148 : decode cX3_walk 148 = .ok (.iload 5, 2) := by decide +kernel
theorem dX3_walk_150 : decode cX3_walk 150 = .ok (.iconst 1, 1) := by decide +kernel
theorem dX3_walk_151 : decode cX3_walk 151 = .ok (.iload 7, 2) := by decide +kernel
theorem dX3_walk_153 : decode cX3_walk 153 = .ok (.ishl, 1) := by decide +kernel
theorem dX3_walk_154 : decode cX3_walk 154 = .ok (.ior, 1) := by decide +kernel
theorem dX3_walk_155 : decode cX3_walk 155 = .ok (.iload 6, 2) := by decide +kernel
theorem dX3_walk_157 : decode cX3_walk 157 = .ok (.iconst 1, 1) := by decide +kernel
theorem dX3_walk_158 : decode cX3_walk 158 = .ok (.iadd, 1) := by decide +kernel
theorem dX3_walk_159 : decode cX3_walk 159 = .ok (.invokevirtual 116, 3) := by decide +kernel
theorem dX3_walk_162 : decode cX3_walk 162 = .ok (.iinc 7 1, 3) := by decide +kernel
theorem dX3_walk_165 : decode cX3_walk 165 = .ok (.goto (-110), 3) := by decide +kernel
theorem dX3_walk_168 : decode cX3_walk 168 = .ok (.return_, 1) := by decide +kernel
theorem dX3_closeRound_0 : decode cX3_closeRound 0 = .ok (.aload_n 0, 1) := by decide +kernel
theorem dX3_closeRound_1 : decode cX3_closeRound 1 = .ok (.getfield 9, 3) := by decide +kernel
theorem dX3_closeRound_4 : decode cX3_closeRound 4 = .ok (.bipush 8, 2) := by decide +kernel
theorem dX3_closeRound_6 : decode cX3_closeRound 6 = .ok (.iload_n 1, 1) := by decide +kernel
theorem dX3_closeRound_7 : decode cX3_closeRound 7 = .ok (.imul, 1) := by decide +kernel
theorem dX3_closeRound_8 : decode cX3_closeRound 8 = .ok (.aload_n 0, 1) := by decide +kernel
theorem dX3_closeRound_9 : decode cX3_closeRound 9 = .ok (.getfield 28, 3) := by decide +kernel
theorem dX3_closeRound_12 : decode cX3_closeRound 12 = .ok (.iadd, 1) := by decide +kernel
theorem dX3_closeRound_13 : decode cX3_closeRound 13 = .ok (.iaload, 1) := by decide +kernel
theorem dX3_closeRound_14 : decode cX3_closeRound 14 = .ok (.istore 6, 2) := by decide +kernel
theorem dX3_closeRound_16 : decode cX3_closeRound 16 = .ok (.iload 6, 2) := by decide +kernel
theorem dX3_closeRound_18 : decode cX3_closeRound 18 = .ok (.ifCond .ge 4, 3) := by decide +kernel
theorem dX3_closeRound_21 : decode cX3_closeRound 21 = .ok (.return_, 1) := by decide +kernel
theorem dX3_closeRound_22 : decode cX3_closeRound 22 = .ok (.iload_n 3, 1) := by decide +kernel
theorem dX3_closeRound_23 : decode cX3_closeRound 23 = .ok (.aload_n 0, 1) := by decide +kernel
theorem dX3_closeRound_24 : decode cX3_closeRound 24 = .ok (.getfield 18, 3) := by decide +kernel
theorem dX3_closeRound_27 : decode cX3_closeRound 27 = .ok (.bipush 12, 2) := by decide +kernel
theorem dX3_closeRound_29 : decode cX3_closeRound 29 = .ok (.iload 6, 2) := by decide +kernel
theorem dX3_closeRound_31 : decode cX3_closeRound 31 = .ok (.imul, 1) := by decide +kernel
theorem dX3_closeRound_32 : decode cX3_closeRound 32 = .ok (.iload_n 2, 1) := by decide +kernel
theorem dX3_closeRound_33 : decode cX3_closeRound 33 = .ok (.aload_n 0, 1) := by decide +kernel
theorem dX3_closeRound_34 : decode cX3_closeRound 34 = .ok (.getfield 15, 3) := by decide +kernel
theorem dX3_closeRound_37 : decode cX3_closeRound 37 = .ok (.iload 6, 2) := by decide +kernel
theorem dX3_closeRound_39 : decode cX3_closeRound 39 = .ok (.iaload, 1) := by decide +kernel
theorem dX3_closeRound_40 : decode cX3_closeRound 40 = .ok (.invokestatic 132, 3) := by decide +kernel
theorem dX3_closeRound_43 : decode cX3_closeRound 43 = .ok (.iadd, 1) := by decide +kernel
theorem dX3_closeRound_44 : decode cX3_closeRound 44 = .ok (.istore 7, 2) := by decide +kernel
theorem dX3_closeRound_46 : decode cX3_closeRound 46 = .ok (.aload_n 0, 1) := by decide +kernel
theorem dX3_closeRound_47 : decode cX3_closeRound 47 = .ok (.getfield 24, 3) := by decide +kernel
theorem dX3_closeRound_50 : decode cX3_closeRound 50 = .ok (.aload_n 0, 1) := by decide +kernel
theorem dX3_closeRound_51 : decode cX3_closeRound 51 = .ok (.aload_n 0, 1) := by decide +kernel
theorem dX3_closeRound_52 : decode cX3_closeRound 52 = .ok (.getfield 28, 3) := by decide +kernel
theorem dX3_closeRound_55 : decode cX3_closeRound 55 = .ok (.iload 7, 2) := by decide +kernel
theorem dX3_closeRound_57 : decode cX3_closeRound 57 = .ok (.iload 4, 2) := by decide +kernel
theorem dX3_closeRound_59 : decode cX3_closeRound 59 = .ok (.invokevirtual 136, 3) := by decide +kernel
theorem dX3_closeRound_62 : decode cX3_closeRound 62 = .ok (.iconst (-1), 1) := by decide +kernel
theorem dX3_closeRound_63 : decode cX3_closeRound 63 = .ok (.ixor, 1) := by decide +kernel
theorem dX3_closeRound_64 : decode cX3_closeRound 64 = .ok (.iand, 1) := by decide +kernel
theorem dX3_closeRound_65 : decode cX3_closeRound 65 = .ok (.ifCond .ne 20, 3) := by decide +kernel
theorem dX3_closeRound_68 : decode cX3_closeRound 68 = .ok (.aload_n 0, 1) := by decide +kernel
theorem dX3_closeRound_69 : decode cX3_closeRound 69 = .ok (.iload_n 2, 1) := by decide +kernel
theorem dX3_closeRound_70 : decode cX3_closeRound 70 = .ok (.aload_n 0, 1) := by decide +kernel
theorem dX3_closeRound_71 : decode cX3_closeRound 71 = .ok (.getfield 15, 3) := by decide +kernel
theorem dX3_closeRound_74 : decode cX3_closeRound 74 = .ok (.iload 6, 2) := by decide +kernel
theorem dX3_closeRound_76 : decode cX3_closeRound 76 = .ok (.iaload, 1) := by decide +kernel
theorem dX3_closeRound_77 : decode cX3_closeRound 77 = .ok (.iadd, 1) := by decide +kernel
theorem dX3_closeRound_78 : decode cX3_closeRound 78 = .ok (.iload 7, 2) := by decide +kernel
theorem dX3_closeRound_80 : decode cX3_closeRound 80 = .ok (.iload 5, 2) := by decide +kernel
theorem dX3_closeRound_82 : decode cX3_closeRound 82 = .ok (.invokevirtual 120, 3) := by decide +kernel
theorem dX3_closeRound_85 : decode cX3_closeRound 85 = .ok (.return_, 1) := by decide +kernel
theorem dX3_seenAt_0 : decode cX3_seenAt 0 = .ok (.iload_n 2, 1) := by decide +kernel
theorem dX3_seenAt_1 : decode cX3_seenAt 1 = .ok (.aload_n 0, 1) := by decide +kernel
theorem dX3_seenAt_2 : decode cX3_seenAt 2 = .ok (.getfield 34, 3) := by decide +kernel
theorem dX3_seenAt_5 : decode cX3_seenAt 5 = .ok (.if_icmp .ge 16, 3) := by decide +kernel
theorem dX3_seenAt_8 : decode cX3_seenAt 8 = .ok (.iload_n 3, 1) := by decide +kernel
theorem dX3_seenAt_9 : decode cX3_seenAt 9 = .ok (.iconst 1, 1) := by decide +kernel
theorem dX3_seenAt_10 : decode cX3_seenAt 10 = .ok (.aload_n 0, 1) := by decide +kernel
theorem dX3_seenAt_11 : decode cX3_seenAt 11 = .ok (.getfield 21, 3) := by decide +kernel
theorem dX3_seenAt_14 : decode cX3_seenAt 14 = .ok (.iload_n 1, 1) := by decide +kernel
theorem dX3_seenAt_15 : decode cX3_seenAt 15 = .ok (.iaload, 1) := by decide +kernel
theorem dX3_seenAt_16 : decode cX3_seenAt 16 = .ok (.ishl, 1) := by decide +kernel
theorem dX3_seenAt_17 : decode cX3_seenAt 17 = .ok (.ior, 1) := by decide +kernel
theorem dX3_seenAt_18 : decode cX3_seenAt 18 = .ok (.goto 4, 3) := by decide +kernel
theorem dX3_seenAt_21 : decode cX3_seenAt 21 = .ok (.iload_n 3, 1) := by decide +kernel
theorem dX3_seenAt_22 : decode cX3_seenAt 22 = .ok (.ireturn, 1) := by decide +kernel
theorem dX3_note_0 : decode cX3_note 0 = .ok (.iconst 0, 1) := by decide +kernel
theorem dX3_note_1 : decode cX3_note 1 = .ok (.aload_n 0, 1) := by decide +kernel
theorem dX3_note_2 : decode cX3_note 2 = .ok (.getfield 31, 3) := by decide +kernel
theorem dX3_note_5 : decode cX3_note 5 = .ok (.iload_n 2, 1) := by decide +kernel
theorem dX3_note_6 : decode cX3_note 6 = .ok (.isub, 1) := by decide +kernel
theorem dX3_note_7 : decode cX3_note 7 = .ok (.invokestatic 140, 3) := by decide +kernel
theorem dX3_note_10 : decode cX3_note 10 = .ok (.istore 4, 2) := by decide +kernel
theorem dX3_note_12 : decode cX3_note 12 = .ok (.iload_n 1, 1) := by decide +kernel
theorem dX3_note_13 : decode cX3_note 13 = .ok (.aload_n 0, 1) := by decide +kernel
theorem dX3_note_14 : decode cX3_note 14 = .ok (.getfield 43, 3) := by decide +kernel
theorem dX3_note_17 : decode cX3_note 17 = .ok (.isub, 1) := by decide +kernel
theorem dX3_note_18 : decode cX3_note 18 = .ok (.istore 5, 2) := by decide +kernel
theorem dX3_note_20 : decode cX3_note 20 = .ok (.aload_n 0, 1) := by decide +kernel
theorem dX3_note_21 : decode cX3_note 21 = .ok (.aload_n 0, 1) := by decide +kernel
theorem dX3_note_22 : decode cX3_note 22 = .ok (.getfield 49, 3) := by decide +kernel
theorem dX3_note_25 : decode cX3_note 25 = .ok (.ifCond .ne 8, 3) := by decide +kernel
theorem dX3_note_28 : decode cX3_note 28 = .ok (.iload 5, 2) := by decide +kernel
theorem dX3_note_30 : decode cX3_note 30 = .ok (.goto 12, 3) := by decide +kernel
theorem dX3_note_33 : decode cX3_note 33 = .ok (.aload_n 0, 1) := by decide +kernel
theorem dX3_note_34 : decode cX3_note 34 = .ok (.getfield 55, 3) := by decide +kernel
theorem dX3_note_37 : decode cX3_note 37 = .ok (.iload 5, 2) := by decide +kernel
theorem dX3_note_39 : decode cX3_note 39 = .ok (.invokestatic 146, 3) := by decide +kernel
theorem dX3_note_42 : decode cX3_note 42 = .ok (.putfield 55, 3) := by decide +kernel
theorem dX3_note_45 : decode cX3_note 45 = .ok (.aload_n 0, 1) := by decide +kernel
theorem dX3_note_46 : decode cX3_note 46 = .ok (.dup, 1) := by decide +kernel
theorem dX3_note_47 : decode cX3_note 47 = .ok (.getfield 49, 3) := by decide +kernel
theorem dX3_note_50 : decode cX3_note 50 = .ok (.iconst 1, 1) := by decide +kernel
theorem dX3_note_51 : decode cX3_note 51 = .ok (.iadd, 1) := by decide +kernel
theorem dX3_note_52 : decode cX3_note 52 = .ok (.putfield 49, 3) := by decide +kernel
theorem dX3_note_55 : decode cX3_note 55 = .ok (.iload 4, 2) := by decide +kernel
theorem dX3_note_57 : decode cX3_note 57 = .ok (.aload_n 0, 1) := by decide +kernel
theorem dX3_note_58 : decode cX3_note 58 = .ok (.getfield 52, 3) := by decide +kernel
theorem dX3_note_61 : decode cX3_note 61 = .ok (.if_icmp .le 28, 3) := by decide +kernel
theorem dX3_note_64 : decode cX3_note 64 = .ok (.aload_n 0, 1) := by decide +kernel
theorem dX3_note_65 : decode cX3_note 65 = .ok (.iload 4, 2) := by decide +kernel
theorem dX3_note_67 : decode cX3_note 67 = .ok (.putfield 52, 3) := by decide +kernel
theorem dX3_note_70 : decode cX3_note 70 = .ok (.aload_n 0, 1) := by decide +kernel
theorem dX3_note_71 : decode cX3_note 71 = .ok (.iload_n 3, 1) := by decide +kernel
theorem dX3_note_72 : decode cX3_note 72 = .ok (.putfield 61, 3) := by decide +kernel
theorem dX3_note_75 : decode cX3_note 75 = .ok (.aload_n 0, 1) := by decide +kernel
theorem dX3_note_76 : decode cX3_note 76 = .ok (.getfield 46, 3) := by decide +kernel
theorem dX3_note_79 : decode cX3_note 79 = .ok (.iconst 0, 1) := by decide +kernel
theorem dX3_note_80 : decode cX3_note 80 = .ok (.aload_n 0, 1) := by decide +kernel
theorem dX3_note_81 : decode cX3_note 81 = .ok (.getfield 58, 3) := by decide +kernel
theorem dX3_note_84 : decode cX3_note 84 = .ok (.iconst 0, 1) := by decide +kernel
theorem dX3_note_85 : decode cX3_note 85 = .ok (.iload_n 3, 1) := by decide +kernel
theorem dX3_note_86 : decode cX3_note 86 = .ok (.invokestatic 95, 3) := by decide +kernel
theorem dX3_note_89 : decode cX3_note 89 = .ok (.return_, 1) := by decide +kernel
theorem dX4_init_0 : decode cX4_init 0 = .ok (.aload_n 0, 1) := by decide +kernel
theorem dX4_init_1 : decode cX4_init 1 = .ok (.invokespecial 3, 3) := by decide +kernel
theorem dX4_init_4 : decode cX4_init 4 = .ok (.aload_n 0, 1) := by decide +kernel
theorem dX4_init_5 : decode cX4_init 5 = .ok (.iconst 0, 1) := by decide +kernel
theorem dX4_init_6 : decode cX4_init 6 = .ok (.putfield 9, 3) := by decide +kernel
theorem dX4_init_9 : decode cX4_init 9 = .ok (.aload_n 0, 1) := by decide +kernel
theorem dX4_init_10 : decode cX4_init 10 = .ok (.iconst 0, 1) := by decide +kernel
theorem dX4_init_11 : decode cX4_init 11 = .ok (.putfield 15, 3) := by decide +kernel
theorem dX4_init_14 : decode cX4_init 14 = .ok (.aload_n 0, 1) := by decide +kernel
theorem dX4_init_15 : decode cX4_init 15 = .ok (.bipush 40, 2) := by decide +kernel
theorem dX4_init_17 : decode cX4_init 17 = .ok (.newarray .int, 2) := by decide +kernel
theorem dX4_init_19 : decode cX4_init 19 = .ok (.putfield 18, 3) := by decide +kernel
theorem dX4_init_22 : decode cX4_init 22 = .ok (.return_, 1) := by decide +kernel
theorem dX4_isMissing_0 : decode cX4_isMissing 0 = .ok (.aload_n 0, 1) := by decide +kernel
theorem dX4_isMissing_1 : decode cX4_isMissing 1 = .ok (.getfield 9, 3) := by decide +kernel
theorem dX4_isMissing_4 : decode cX4_isMissing 4 = .ok (.ifCond .ne 7, 3) := by decide +kernel
theorem dX4_isMissing_7 : decode cX4_isMissing 7 = .ok (.iconst 1, 1) := by decide +kernel
theorem dX4_isMissing_8 : decode cX4_isMissing 8 = .ok (.goto 4, 3) := by decide +kernel
theorem dX4_isMissing_11 : decode cX4_isMissing 11 = .ok (.iconst 0, 1) := by decide +kernel
theorem dX4_isMissing_12 : decode cX4_isMissing 12 = .ok (.ireturn, 1) := by decide +kernel
theorem dX4_remake_0 : decode cX4_remake 0 = .ok (.aload_n 0, 1) := by decide +kernel
theorem dX4_remake_1 : decode cX4_remake 1 = .ok (.iload_n 1, 1) := by decide +kernel
theorem dX4_remake_2 : decode cX4_remake 2 = .ok (.putfield 9, 3) := by decide +kernel
theorem dX4_remake_5 : decode cX4_remake 5 = .ok (.aload_n 0, 1) := by decide +kernel
theorem dX4_remake_6 : decode cX4_remake 6 = .ok (.iload_n 1, 1) := by decide +kernel
theorem dX4_remake_7 : decode cX4_remake 7 = .ok (.ifCond .ne 7, 3) := by decide +kernel
theorem dX4_remake_10 : decode cX4_remake 10 = .ok (.iconst 0, 1) := by decide +kernel
theorem dX4_remake_11 : decode cX4_remake 11 = .ok (.goto 4, 3) := by decide +kernel
theorem dX4_remake_14 : decode cX4_remake 14 = .ok (.iload_n 2, 1) := by decide +kernel
theorem dX4_remake_15 : decode cX4_remake 15 = .ok (.putfield 15, 3) := by decide +kernel
theorem dX4_remake_18 : decode cX4_remake 18 = .ok (.aload_n 0, 1) := by decide +kernel
theorem dX4_remake_19 : decode cX4_remake 19 = .ok (.getfield 18, 3) := by decide +kernel
theorem dX4_remake_22 : decode cX4_remake 22 = .ok (.iconst 0, 1) := by decide +kernel
theorem dX4_remake_23 : decode cX4_remake 23 = .ok (.invokestatic 22, 3) := by decide +kernel
theorem dX4_remake_26 : decode cX4_remake 26 = .ok (.return_, 1) := by decide +kernel
theorem dX4_set_0 : decode cX4_set 0 = .ok (.aload_n 0, 1) := by decide +kernel
theorem dX4_set_1 : decode cX4_set 1 = .ok (.getfield 9, 3) := by decide +kernel
theorem dX4_set_4 : decode cX4_set 4 = .ok (.lookupswitch 50 #[(8, 28), (16, 39)], 28) := by decide +kernel
theorem dX4_set_32 : decode cX4_set 32 = .ok (.aload_n 0, 1) := by decide +kernel
theorem dX4_set_33 : decode cX4_set 33 = .ok (.getfield 18, 3) := by decide +kernel
theorem dX4_set_36 : decode cX4_set 36 = .ok (.iload_n 1, 1) := by decide +kernel
theorem dX4_set_37 : decode cX4_set 37 = .ok (.iload_n 2, 1) := by decide +kernel
theorem dX4_set_38 : decode cX4_set 38 = .ok (.i2b, 1) := by decide +kernel
theorem dX4_set_39 : decode cX4_set 39 = .ok (.iastore, 1) := by decide +kernel
theorem dX4_set_40 : decode cX4_set 40 = .ok (.goto 21, 3) := by decide +kernel
theorem dX4_set_43 : decode cX4_set 43 = .ok (.aload_n 0, 1) := by decide +kernel
theorem dX4_set_44 : decode cX4_set 44 = .ok (.getfield 18, 3) := by decide +kernel
theorem dX4_set_47 : decode cX4_set 47 = .ok (.iload_n 1, 1) := by decide +kernel
theorem dX4_set_48 : decode cX4_set 48 = .ok (.iload_n 2, 1) := by decide +kernel
theorem dX4_set_49 : decode cX4_set 49 = .ok (.i2s, 1) := by decide +kernel
theorem dX4_set_50 : decode cX4_set 50 = .ok (.iastore, 1) := by decide +kernel
theorem dX4_set_51 : decode cX4_set 51 = .ok (.goto 10, 3) := by decide +kernel
theorem dX4_set_54 : decode cX4_set 54 = .ok (.aload_n 0, 1) := by decide +kernel
theorem dX4_set_55 : decode cX4_set 55 = .ok (.getfield 18, 3) := by decide +kernel
theorem dX4_set_58 : decode cX4_set 58 = .ok (.iload_n 1, 1) := by decide +kernel
theorem dX4_set_59 : decode cX4_set 59 = .ok (.iload_n 2, 1) := by decide +kernel
theorem dX4_set_60 : decode cX4_set 60 = .ok (.iastore, 1) := by decide +kernel
theorem dX4_set_61 : decode cX4_set 61 = .ok (.return_, 1) := by decide +kernel
theorem dX4_hasRange_0 : decode cX4_hasRange 0 = .ok (.iload_n 2, 1) := by decide +kernel
theorem dX4_hasRange_1 : decode cX4_hasRange 1 = .ok (.ifCond .lt 29, 3) := by decide +kernel
theorem dX4_hasRange_4 : decode cX4_hasRange 4 = .ok (.iload_n 1, 1) := by decide +kernel
theorem dX4_hasRange_5 : decode cX4_hasRange 5 = .ok (.ifCond .lt 25, 3) := by decide +kernel
theorem dX4_hasRange_8 : decode cX4_hasRange 8 = .ok (.iload_n 2, 1) := by decide +kernel
theorem dX4_hasRange_9 : decode cX4_hasRange 9 = .ok (.aload_n 0, 1) := by decide +kernel
theorem dX4_hasRange_10 : decode cX4_hasRange 10 = .ok (.getfield 15, 3) := by decide +kernel
theorem dX4_hasRange_13 : decode cX4_hasRange 13 = .ok (.if_icmp .gt 17, 3) := by decide +kernel
theorem dX4_hasRange_16 : decode cX4_hasRange 16 = .ok (.iload_n 1, 1) := by decide +kernel
theorem dX4_hasRange_17 : decode cX4_hasRange 17 = .ok (.aload_n 0, 1) := by decide +kernel
theorem dX4_hasRange_18 : decode cX4_hasRange 18 = .ok (.getfield 15, 3) := by decide +kernel
theorem dX4_hasRange_21 : decode cX4_hasRange 21 = .ok (.iload_n 2, 1) := by decide +kernel
theorem dX4_hasRange_22 : decode cX4_hasRange 22 = .ok (.isub, 1) := by decide +kernel
theorem dX4_hasRange_23 : decode cX4_hasRange 23 = .ok (.if_icmp .gt 7, 3) := by decide +kernel
theorem dX4_hasRange_26 : decode cX4_hasRange 26 = .ok (.iconst 1, 1) := by decide +kernel
theorem dX4_hasRange_27 : decode cX4_hasRange 27 = .ok (.goto 4, 3) := by decide +kernel
theorem dX4_hasRange_30 : decode cX4_hasRange 30 = .ok (.iconst 0, 1) := by decide +kernel
theorem dX4_hasRange_31 : decode cX4_hasRange 31 = .ok (.ireturn, 1) := by decide +kernel
theorem dX5_init_0 : decode cX5_init 0 = .ok (.aload_n 0, 1) := by decide +kernel
theorem dX5_init_1 : decode cX5_init 1 = .ok (.invokespecial 3, 3) := by decide +kernel
theorem dX5_init_4 : decode cX5_init 4 = .ok (.aload_n 0, 1) := by decide +kernel
theorem dX5_init_5 : decode cX5_init 5 = .ok (.iconst 0, 1) := by decide +kernel
theorem dX5_init_6 : decode cX5_init 6 = .ok (.putfield 9, 3) := by decide +kernel
theorem dX5_init_9 : decode cX5_init 9 = .ok (.aload_n 0, 1) := by decide +kernel
theorem dX5_init_10 : decode cX5_init 10 = .ok (.iconst 0, 1) := by decide +kernel
theorem dX5_init_11 : decode cX5_init 11 = .ok (.putfield 15, 3) := by decide +kernel
theorem dX5_init_14 : decode cX5_init 14 = .ok (.aload_n 0, 1) := by decide +kernel
theorem dX5_init_15 : decode cX5_init 15 = .ok (.iconst 1, 1) := by decide +kernel
theorem dX5_init_16 : decode cX5_init 16 = .ok (.putfield 18, 3) := by decide +kernel
theorem dX5_init_19 : decode cX5_init 19 = .ok (.aload_n 0, 1) := by decide +kernel
theorem dX5_init_20 : decode cX5_init 20 = .ok (.iconst 5, 1) := by decide +kernel
theorem dX5_init_21 : decode cX5_init 21 = .ok (.putfield 21, 3) := by decide +kernel
theorem dX5_init_24 : decode cX5_init 24 = .ok (.aload_n 0, 1) := by decide +kernel
theorem dX5_init_25 : decode cX5_init 25 = .ok (.iconst 0, 1) := by decide +kernel
theorem dX5_init_26 : decode cX5_init 26 = .ok (.putfield 24, 3) := by decide +kernel
theorem dX5_init_29 : decode cX5_init 29 = .ok (.return_, 1) := by decide +kernel
theorem dX5_takeFrom_0 : decode cX5_takeFrom 0 = .ok (.aload_n 0, 1) := by decide +kernel
theorem dX5_takeFrom_1 : decode cX5_takeFrom 1 = .ok (.aload_n 1, 1) := by decide +kernel
theorem dX5_takeFrom_2 : decode cX5_takeFrom 2 = .ok (.getfield 9, 3) := by decide +kernel
theorem dX5_takeFrom_5 : decode cX5_takeFrom 5 = .ok (.putfield 9, 3) := by decide +kernel
theorem dX5_takeFrom_8 : decode cX5_takeFrom 8 = .ok (.aload_n 0, 1) := by decide +kernel
theorem dX5_takeFrom_9 : decode cX5_takeFrom 9 = .ok (.aload_n 1, 1) := by decide +kernel
theorem dX5_takeFrom_10 : decode cX5_takeFrom 10 = .ok (.getfield 15, 3) := by decide +kernel
theorem dX5_takeFrom_13 : decode cX5_takeFrom 13 = .ok (.putfield 15, 3) := by decide +kernel
theorem dX5_takeFrom_16 : decode cX5_takeFrom 16 = .ok (.aload_n 0, 1) := by decide +kernel
theorem dX5_takeFrom_17 : decode cX5_takeFrom 17 = .ok (.aload_n 1, 1) := by decide +kernel
theorem dX5_takeFrom_18 : decode cX5_takeFrom 18 = .ok (.getfield 18, 3) := by decide +kernel
theorem dX5_takeFrom_21 : decode cX5_takeFrom 21 = .ok (.putfield 18, 3) := by decide +kernel
theorem dX5_takeFrom_24 : decode cX5_takeFrom 24 = .ok (.aload_n 0, 1) := by decide +kernel
theorem dX5_takeFrom_25 : decode cX5_takeFrom 25 = .ok (.aload_n 1, 1) := by decide +kernel
theorem dX5_takeFrom_26 : decode cX5_takeFrom 26 = .ok (.getfield 21, 3) := by decide +kernel
theorem dX5_takeFrom_29 : decode cX5_takeFrom 29 = .ok (.putfield 21, 3) := by decide +kernel
theorem dX5_takeFrom_32 : decode cX5_takeFrom 32 = .ok (.aload_n 0, 1) := by decide +kernel
theorem dX5_takeFrom_33 : decode cX5_takeFrom 33 = .ok (.aload_n 1, 1) := by decide +kernel
theorem dX5_takeFrom_34 : decode cX5_takeFrom 34 = .ok (.getfield 24, 3) := by decide +kernel
theorem dX5_takeFrom_37 : decode cX5_takeFrom 37 = .ok (.putfield 24, 3) := by decide +kernel
theorem dX5_takeFrom_40 : decode cX5_takeFrom 40 = .ok (.return_, 1) := by decide +kernel
theorem dX5_across_0 : decode cX5_across 0 = .ok (.iload_n 1, 1) := by decide +kernel
theorem dX5_across_1 : decode cX5_across 1 = .ok (.aload_n 0, 1) := by decide +kernel
theorem dX5_across_2 : decode cX5_across 2 = .ok (.getfield 15, 3) := by decide +kernel
theorem dX5_across_5 : decode cX5_across 5 = .ok (.if_icmp .ne 8, 3) := by decide +kernel
theorem dX5_across_8 : decode cX5_across 8 = .ok (.aload_n 0, 1) := by decide +kernel
theorem dX5_across_9 : decode cX5_across 9 = .ok (.getfield 18, 3) := by decide +kernel
theorem dX5_across_12 : decode cX5_across 12 = .ok (.ireturn, 1) := by decide +kernel
theorem dX5_across_13 : decode cX5_across 13 = .ok (.iload_n 1, 1) := by decide +kernel
theorem dX5_across_14 : decode cX5_across 14 = .ok (.aload_n 0, 1) := by decide +kernel
theorem dX5_across_15 : decode cX5_across 15 = .ok (.getfield 18, 3) := by decide +kernel
theorem dX5_across_18 : decode cX5_across 18 = .ok (.if_icmp .ne 10, 3) := by decide +kernel
theorem dX5_across_21 : decode cX5_across 21 = .ok (.aload_n 0, 1) := by decide +kernel
theorem dX5_across_22 : decode cX5_across 22 = .ok (.getfield 15, 3) := by decide +kernel
theorem dX5_across_25 : decode cX5_across 25 = .ok (.goto 4, 3) := by decide +kernel
theorem dX5_across_28 : decode cX5_across 28 = .ok (.iconst (-1), 1) := by decide +kernel
theorem dX5_across_29 : decode cX5_across 29 = .ok (.ireturn, 1) := by decide +kernel
theorem dX5_takes_0 : decode cX5_takes 0 = .ok (.aload_n 0, 1) := by decide +kernel
theorem dX5_takes_1 : decode cX5_takes 1 = .ok (.getfield 9, 3) := by decide +kernel
theorem dX5_takes_4 : decode cX5_takes 4 = .ok (.tableswitch 47 4 6 #[28, 40, 40], 28) := by decide +kernel
theorem dX5_takes_32 : decode cX5_takes 32 = .ok (.aload_n 0, 1) := by decide +kernel
theorem dX5_takes_33 : decode cX5_takes 33 = .ok (.getfield 21, 3) := by decide +kernel
theorem dX5_takes_36 : decode cX5_takes 36 = .ok (.aload_n 0, 1) := by decide +kernel
theorem dX5_takes_37 : decode cX5_takes 37 = .ok (.getfield 21, 3) := by decide +kernel
theorem dX5_takes_40 : decode cX5_takes 40 = .ok (.iconst 2, 1) := by decide +kernel
theorem dX5_takes_41 : decode cX5_takes 41 = .ok (.idiv, 1) := by decide +kernel
theorem dX5_takes_42 : decode cX5_takes 42 = .ok (.iadd, 1) := by decide +kernel
theorem dX5_takes_43 : decode cX5_takes 43 = .ok (.ireturn, 1) := by decide +kernel
theorem dX5_takes_44 : decode cX5_takes 44 = .ok (.aload_n 0, 1) := by decide +kernel
theorem dX5_takes_45 : decode cX5_takes 45 = .ok (.getfield 21, 3) := by decide +kernel
theorem dX5_takes_48 : decode cX5_takes 48 = .ok (.iconst 2, 1) := by decide +kernel
theorem dX5_takes_49 : decode cX5_takes 49 = .ok (.iadd, 1) := by decide +kernel
theorem dX5_takes_50 : decode cX5_takes 50 = .ok (.ireturn, 1) := by decide +kernel
theorem dX5_takes_51 : decode cX5_takes 51 = .ok (.aload_n 0, 1) := by decide +kernel
theorem dX5_takes_52 : decode cX5_takes 52 = .ok (.getfield 21, 3) := by decide +kernel
theorem dX5_takes_55 : decode cX5_takes 55 = .ok (.ireturn, 1) := by decide +kernel
theorem dX5_lossBy_0 : decode cX5_lossBy 0 = .ok (.aload_n 0, 1) := by decide +kernel
theorem dX5_lossBy_1 : decode cX5_lossBy 1 = .ok (.getfield 9, 3) := by decide +kernel
theorem dX5_lossBy_4 : decode cX5_lossBy 4 = .ok (.iload_n 1, 1) := by decide +kernel
theorem dX5_lossBy_5 : decode cX5_lossBy 5 = .ok (.invokestatic 27, 3) := by decide +kernel
theorem dX5_lossBy_8 : decode cX5_lossBy 8 = .ok (.istore 4, 2) := by decide +kernel
theorem dX5_lossBy_10 : decode cX5_lossBy 10 = .ok (.aload_n 0, 1) := by decide +kernel
theorem dX5_lossBy_11 : decode cX5_lossBy 11 = .ok (.getfield 24, 3) := by decide +kernel
theorem dX5_lossBy_14 : decode cX5_lossBy 14 = .ok (.iconst 1, 1) := by decide +kernel
theorem dX5_lossBy_15 : decode cX5_lossBy 15 = .ok (.if_icmp .ne 7, 3) := by decide +kernel
theorem dX5_lossBy_18 : decode cX5_lossBy 18 = .ok (.iconst 0, 1) := by decide +kernel
theorem dX5_lossBy_19 : decode cX5_lossBy 19 = .ok (.goto 11, 3) := by decide +kernel
theorem dX5_lossBy_22 : decode cX5_lossBy 22 = .ok (.aload_n 0, 1) := by decide +kernel
theorem dX5_lossBy_23 : decode cX5_lossBy 23 = .ok (.getfield 9, 3) := by decide +kernel
theorem dX5_lossBy_26 : decode cX5_lossBy 26 = .ok (.iload_n 2, 1) := by decide +kernel
theorem dX5_lossBy_27 : decode cX5_lossBy 27 = .ok (.invokestatic 31, 3) := by decide +kernel
theorem dX5_lossBy_30 : decode cX5_lossBy 30 = .ok (.istore 5, 2) := by decide +kernel
theorem dX5_lossBy_32 : decode cX5_lossBy 32 = .ok (.iload_n 3, 1) := by decide +kernel
theorem dX5_lossBy_33 : decode cX5_lossBy 33 = .ok (.iconst 1, 1) := by decide +kernel
theorem dX5_lossBy_34 : decode cX5_lossBy 34 = .ok (.if_icmp .ne 15, 3) := by decide +kernel
theorem dX5_lossBy_37 : decode cX5_lossBy 37 = .ok (.iload 4, 2) := by decide +kernel
theorem dX5_lossBy_39 : decode cX5_lossBy 39 = .ok (.iconst 2, 1) := by decide +kernel
theorem dX5_lossBy_40 : decode cX5_lossBy 40 = .ok (.idiv, 1) := by decide +kernel
theorem dX5_lossBy_41 : decode cX5_lossBy 41 = .ok (.iload 5, 2) := by decide +kernel
theorem dX5_lossBy_43 : decode cX5_lossBy 43 = .ok (.iconst 2, 1) := by decide +kernel
theorem dX5_lossBy_44 : decode cX5_lossBy 44 = .ok (.imul, 1) := by decide +kernel
theorem dX5_lossBy_45 : decode cX5_lossBy 45 = .ok (.iadd, 1) := by decide +kernel
theorem dX5_lossBy_46 : decode cX5_lossBy 46 = .ok (.goto 16, 3) := by decide +kernel
theorem dX5_lossBy_49 : decode cX5_lossBy 49 = .ok (.iload 4, 2) := by decide +kernel
theorem dX5_lossBy_51 : decode cX5_lossBy 51 = .ok (.iload 5, 2) := by decide +kernel
theorem dX5_lossBy_53 : decode cX5_lossBy 53 = .ok (.iadd, 1) := by decide +kernel
theorem dX5_lossBy_54 : decode cX5_lossBy 54 = .ok (.aload_n 0, 1) := by decide +kernel
theorem dX5_lossBy_55 : decode cX5_lossBy 55 = .ok (.getfield 9, 3) := by decide +kernel
theorem dX5_lossBy_58 : decode cX5_lossBy 58 = .ok (.invokestatic 34, 3) := by decide +kernel
theorem dX5_lossBy_61 : decode cX5_lossBy 61 = .ok (.iadd, 1) := by decide +kernel
theorem dX5_lossBy_62 : decode cX5_lossBy 62 = .ok (.ireturn, 1) := by decide +kernel
theorem dX5_meltsBySun_0 : decode cX5_meltsBySun 0 = .ok (.iconst 2, 1) := by decide +kernel
theorem dX5_meltsBySun_1 : decode cX5_meltsBySun 1 = .ok (.iload_n 1, 1) := by decide +kernel
theorem dX5_meltsBySun_2 : decode cX5_meltsBySun 2 = .ok (.imul, 1) := by decide +kernel
theorem dX5_meltsBySun_3 : decode cX5_meltsBySun 3 = .ok (.istore_n 2, 1) := by decide +kernel
theorem dX5_meltsBySun_4 : decode cX5_meltsBySun 4 = .ok (.iload_n 0, 1) := by decide +kernel
theorem dX5_meltsBySun_5 : decode cX5_meltsBySun 5 = .ok (.tableswitch 45 1 4 #[31, 35, 43, 35], 31) := by decide +kernel
theorem dX5_meltsBySun_36 : decode cX5_meltsBySun 36 = .ok (.iload_n 2, 1) := by decide +kernel
theorem dX5_meltsBySun_37 : decode cX5_meltsBySun 37 = .ok (.iconst 2, 1) := by decide +kernel
theorem dX5_meltsBySun_38 : decode cX5_meltsBySun 38 = .ok (.idiv, 1) := by decide +kernel
theorem dX5_meltsBySun_39 : decode cX5_meltsBySun 39 = .ok (.ireturn, 1) := by decide +kernel
theorem dX5_meltsBySun_40 : decode cX5_meltsBySun 40 = .ok (.iconst 0, 1) := by decide +kernel
theorem dX5_meltsBySun_41 : decode cX5_meltsBySun 41 = .ok (.iload_n 2, 1) := by decide +kernel
theorem dX5_meltsBySun_42 : decode cX5_meltsBySun 42 = .ok (.iconst 3, 1) := by decide +kernel
theorem dX5_meltsBySun_43 : decode cX5_meltsBySun 43 = .ok (.isub, 1) := by decide +kernel
theorem dX5_meltsBySun_44 : decode cX5_meltsBySun 44 = .ok (.invokestatic 38, 3) := by decide +kernel
theorem dX5_meltsBySun_47 : decode cX5_meltsBySun 47 = .ok (.ireturn, 1) := by decide +kernel
theorem dX5_meltsBySun_48 : decode cX5_meltsBySun 48 = .ok (.iconst 0, 1) := by decide +kernel
theorem dX5_meltsBySun_49 : decode cX5_meltsBySun 49 = .ok (.ireturn, 1) := by decide +kernel
theorem dX5_meltsBySun_50 : decode cX5_meltsBySun 50 = .ok (.iload_n 2, 1) := by decide +kernel
theorem dX5_meltsBySun_51 : decode cX5_meltsBySun 51 = .ok (.ireturn, 1) := by decide +kernel
theorem dX5_wets_0 : decode cX5_wets 0 = .ok (.iload_n 0, 1) := by decide +kernel
theorem dX5_wets_1 : decode cX5_wets 1 = .ok (.tableswitch 35 2 4 #[29, 27, 29], 27) := by decide +kernel
theorem dX5_wets_28 : decode cX5_wets 28 = .ok (.iconst 0, 1) := by decide +kernel
theorem dX5_wets_29 : decode cX5_wets 29 = .ok (.ireturn, 1) := by decide +kernel
theorem dX5_wets_30 : decode cX5_wets 30 = .ok (.iconst 5, 1) := by decide +kernel
theorem dX5_wets_31 : decode cX5_wets 31 = .ok (.iload_n 1, 1) := by decide +kernel
theorem dX5_wets_32 : decode cX5_wets 32 = .ok (.imul, 1) := by decide +kernel
theorem dX5_wets_33 : decode cX5_wets 33 = .ok (.iload_n 1, 1) := by decide +kernel
theorem dX5_wets_34 : decode cX5_wets 34 = .ok (.iadd, 1) := by decide +kernel
theorem dX5_wets_35 : decode cX5_wets 35 = .ok (.ireturn, 1) := by decide +kernel
theorem dX5_wets_36 : decode cX5_wets 36 = .ok (.iconst 5, 1) := by decide +kernel
theorem dX5_wets_37 : decode cX5_wets 37 = .ok (.iload_n 1, 1) := by decide +kernel
theorem dX5_wets_38 : decode cX5_wets 38 = .ok (.imul, 1) := by decide +kernel
theorem dX5_wets_39 : decode cX5_wets 39 = .ok (.ireturn, 1) := by decide +kernel
theorem dX5_licks_0 : decode cX5_licks 0 = .ok (.iload_n 0, 1) := by decide +kernel
theorem dX5_licks_1 : decode cX5_licks 1 = .ok (.lookupswitch 31 #[(5, 27), (6, 29)], 27) := by decide +kernel
theorem dX5_licks_28 : decode cX5_licks 28 = .ok (.iconst 2, 1) := by decide +kernel
theorem dX5_licks_29 : decode cX5_licks 29 = .ok (.ireturn, 1) := by decide +kernel
theorem dX5_licks_30 : decode cX5_licks 30 = .ok (.iconst 5, 1) := by decide +kernel
theorem dX5_licks_31 : decode cX5_licks 31 = .ok (.ireturn, 1) := by decide +kernel
theorem dX5_licks_32 : decode cX5_licks 32 = .ok (.iconst 0, 1) := by decide +kernel
theorem dX5_licks_33 : decode cX5_licks 33 = .ok (.ireturn, 1) := by decide +kernel
theorem dX5_above_0 : decode cX5_above 0 = .ok (.iload_n 0, 1) := by decide +kernel
theorem dX5_above_1 : decode cX5_above 1 = .ok (.tableswitch 47 1 6 #[39, 39, 41, 43, 39, 45], 39) := by decide +kernel
theorem dX5_above_40 : decode cX5_above 40 = .ok (.iconst 0, 1) := by decide +kernel
theorem dX5_above_41 : decode cX5_above 41 = .ok (.ireturn, 1) := by decide +kernel
theorem dX5_above_42 : decode cX5_above 42 = .ok (.iconst 1, 1) := by decide +kernel
theorem dX5_above_43 : decode cX5_above 43 = .ok (.ireturn, 1) := by decide +kernel
theorem dX5_above_44 : decode cX5_above 44 = .ok (.iconst 2, 1) := by decide +kernel
theorem dX5_above_45 : decode cX5_above 45 = .ok (.ireturn, 1) := by decide +kernel
theorem dX5_above_46 : decode cX5_above 46 = .ok (.iconst 5, 1) := by decide +kernel
theorem dX5_above_47 : decode cX5_above 47 = .ok (.ireturn, 1) := by decide +kernel
theorem dX5_above_48 : decode cX5_above 48 = .ok (.iconst (-1), 1) := by decide +kernel
theorem dX5_above_49 : decode cX5_above 49 = .ok (.ireturn, 1) := by decide +kernel
theorem dX5_isUnder_0 : decode cX5_isUnder 0 = .ok (.iload_n 0, 1) := by decide +kernel
theorem dX5_isUnder_1 : decode cX5_isUnder 1 = .ok (.istore_n 2, 1) := by decide +kernel
theorem dX5_isUnder_2 : decode cX5_isUnder 2 = .ok (.iconst 0, 1) := by decide +kernel
theorem dX5_isUnder_3 : decode cX5_isUnder 3 = .ok (.istore_n 3, 1) := by decide +kernel
theorem dX5_isUnder_4 : decode cX5_isUnder 4 = .ok (.iload_n 3, 1) := by decide +kernel
theorem dX5_isUnder_5 : decode cX5_isUnder 5 = .ok (.bipush 7, 2) := by decide +kernel
theorem dX5_isUnder_7 : decode cX5_isUnder 7 = .ok (.if_icmp .ge 25, 3) := by decide +kernel
theorem dX5_isUnder_10 : decode cX5_isUnder 10 = .ok (.iload_n 2, 1) := by decide +kernel
theorem dX5_isUnder_11 : decode cX5_isUnder 11 = .ok (.ifCond .lt 21, 3) := by decide +kernel
theorem dX5_isUnder_14 : decode cX5_isUnder 14 = .ok (.iload_n 2, 1) := by decide +kernel
theorem dX5_isUnder_15 : decode cX5_isUnder 15 = .ok (.iload_n 1, 1) := by decide +kernel
theorem dX5_isUnder_16 : decode cX5_isUnder 16 = .ok (.if_icmp .ne 5, 3) := by decide +kernel
theorem dX5_isUnder_19 : decode cX5_isUnder 19 = .ok (.iconst 1, 1) := by decide +kernel
theorem dX5_isUnder_20 : decode cX5_isUnder 20 = .ok (.ireturn, 1) := by decide +kernel
theorem dX5_isUnder_21 : decode cX5_isUnder 21 = .ok (.iload_n 2, 1) := by decide +kernel
theorem dX5_isUnder_22 : decode cX5_isUnder 22 = .ok (.invokestatic 43, 3) := by decide +kernel
theorem dX5_isUnder_25 : decode cX5_isUnder 25 = .ok (.istore_n 2, 1) := by decide +kernel
theorem dX5_isUnder_26 : decode cX5_isUnder 26 = .ok (.iinc 3 1, 3) := by decide +kernel
theorem dX5_isUnder_29 : decode cX5_isUnder 29 = .ok (.goto (-25), 3) := by decide +kernel
theorem dX5_isUnder_32 : decode cX5_isUnder 32 = .ok (.iconst 0, 1) := by decide +kernel
theorem dX5_isUnder_33 : decode cX5_isUnder 33 = .ok (.ireturn, 1) := by decide +kernel
theorem dX6_init_0 : decode cX6_init 0 = .ok (.aload_n 0, 1) := by decide +kernel
theorem dX6_init_1 : decode cX6_init 1 = .ok (.invokespecial 3, 3) := by decide +kernel
theorem dX6_init_4 : decode cX6_init 4 = .ok (.aload_n 0, 1) := by decide +kernel
theorem dX6_init_5 : decode cX6_init 5 = .ok (.bipush 14, 2) := by decide +kernel
theorem dX6_init_7 : decode cX6_init 7 = .ok (.anewarray 9, 3) := by decide +kernel
theorem dX6_init_10 : decode cX6_init 10 = .ok (.putfield 11, 3) := by decide +kernel
theorem dX6_init_13 : decode cX6_init 13 = .ok (.aload_n 0, 1) := by decide +kernel
theorem dX6_init_14 : decode cX6_init 14 = .ok (.iconst 0, 1) := by decide +kernel
theorem dX6_init_15 : decode cX6_init 15 = .ok (.putfield 17, 3) := by decide +kernel
theorem dX6_init_18 : decode cX6_init 18 = .ok (.aload_n 0, 1) := by decide +kernel
theorem dX6_init_19 : decode cX6_init 19 = .ok (.bipush 8, 2) := by decide +kernel
theorem dX6_init_21 : decode cX6_init 21 = .ok (.newarray .int, 2) := by decide +kernel
theorem dX6_init_23 : decode cX6_init 23 = .ok (.putfield 21, 3) := by decide +kernel
theorem dX6_init_26 : decode cX6_init 26 = .ok (.aload_n 0, 1) := by decide +kernel
theorem dX6_init_27 : decode cX6_init 27 = .ok (.bipush 12, 2) := by decide +kernel
theorem dX6_init_29 : decode cX6_init 29 = .ok (.newarray .int, 2) := by decide +kernel
theorem dX6_init_31 : decode cX6_init 31 = .ok (.putfield 25, 3) := by decide +kernel
theorem dX6_init_34 : decode cX6_init 34 = .ok (.aload_n 0, 1) := by decide +kernel
theorem dX6_init_35 : decode cX6_init 35 = .ok (.bipush 12, 2) := by decide +kernel
theorem dX6_init_37 : decode cX6_init 37 = .ok (.newarray .int, 2) := by decide +kernel
theorem dX6_init_39 : decode cX6_init 39 = .ok (.putfield 28, 3) := by decide +kernel
theorem dX6_init_42 : decode cX6_init 42 = .ok (.aload_n 0, 1) := by decide +kernel
theorem dX6_init_43 : decode cX6_init 43 = .ok (.bipush 12, 2) := by decide +kernel
theorem dX6_init_45 : decode cX6_init 45 = .ok (.newarray .int, 2) := by decide +kernel
theorem dX6_init_47 : decode cX6_init 47 = .ok (.putfield 31, 3) := by decide +kernel
theorem dX6_init_50 : decode cX6_init 50 = .ok (.iconst 0, 1) := by decide +kernel
theorem dX6_init_51 : decode cX6_init 51 = .ok (.istore_n 1, 1) := by decide +kernel
theorem dX6_init_52 : decode cX6_init 52 = .ok (.iload_n 1, 1) := by decide +kernel
theorem dX6_init_53 : decode cX6_init 53 = .ok (.bipush 14, 2) := by decide +kernel
theorem dX6_init_55 : decode cX6_init 55 = .ok (.if_icmp .ge 22, 3) := by decide +kernel
theorem dX6_init_58 : decode cX6_init 58 = .ok (.aload_n 0, 1) := by decide +kernel
theorem dX6_init_59 : decode cX6_init 59 = .ok (.getfield 11, 3) := by decide +kernel
theorem dX6_init_62 : decode cX6_init 62 = .ok (.iload_n 1, 1) := by decide +kernel
theorem dX6_init_63 : decode cX6_init 63 = .ok (.new 9, 3) := by decide +kernel
theorem dX6_init_66 : decode cX6_init 66 = .ok (.dup, 1) := by decide +kernel
theorem dX6_init_67 : decode cX6_init 67 = .ok (.invokespecial 34, 3) := by decide +kernel
theorem dX6_init_70 : decode cX6_init 70 = .ok (.aastore, 1) := by decide +kernel
theorem dX6_init_71 : decode cX6_init 71 = .ok (.iinc 1 1, 3) := by decide +kernel
theorem dX6_init_74 : decode cX6_init 74 = .ok (.goto (-22), 3) := by decide +kernel
theorem dX6_init_77 : decode cX6_init 77 = .ok (.iconst 0, 1) := by decide +kernel
theorem dX6_init_78 : decode cX6_init 78 = .ok (.istore_n 1, 1) := by decide +kernel
theorem dX6_init_79 : decode cX6_init 79 = .ok (.iload_n 1, 1) := by decide +kernel
theorem dX6_init_80 : decode cX6_init 80 = .ok (.bipush 8, 2) := by decide +kernel
theorem dX6_init_82 : decode cX6_init 82 = .ok (.if_icmp .ge 18, 3) := by decide +kernel
theorem dX6_init_85 : decode cX6_init 85 = .ok (.aload_n 0, 1) := by decide +kernel
theorem dX6_init_86 : decode cX6_init 86 = .ok (.getfield 21, 3) := by decide +kernel
theorem dX6_init_89 : decode cX6_init 89 = .ok (.iload_n 1, 1) := by decide +kernel
theorem dX6_init_90 : decode cX6_init 90 = .ok (.iload_n 1, 1) := by decide +kernel
theorem dX6_init_91 : decode cX6_init 91 = .ok (.iconst 4, 1) := by decide +kernel
theorem dX6_init_92 : decode cX6_init 92 = .ok (.irem, 1) := by decide +kernel
theorem dX6_init_93 : decode cX6_init 93 = .ok (.iastore, 1) := by decide +kernel
theorem dX6_init_94 : decode cX6_init 94 = .ok (.iinc 1 1, 3) := by decide +kernel
theorem dX6_init_97 : decode cX6_init 97 = .ok (.goto (-18), 3) := by decide +kernel
theorem dX6_init_100 : decode cX6_init 100 = .ok (.iconst 0, 1) := by decide +kernel
theorem dX6_init_101 : decode cX6_init 101 = .ok (.istore_n 1, 1) := by decide +kernel
theorem dX6_init_102 : decode cX6_init 102 = .ok (.iload_n 1, 1) := by decide +kernel
theorem dX6_init_103 : decode cX6_init 103 = .ok (.bipush 12, 2) := by decide +kernel
theorem dX6_init_105 : decode cX6_init 105 = .ok (.if_icmp .ge 16, 3) := by decide +kernel
theorem dX6_init_108 : decode cX6_init 108 = .ok (.aload_n 0, 1) := by decide +kernel
theorem dX6_init_109 : decode cX6_init 109 = .ok (.getfield 25, 3) := by decide +kernel
theorem dX6_init_112 : decode cX6_init 112 = .ok (.iload_n 1, 1) := by decide +kernel
theorem dX6_init_113 : decode cX6_init 113 = .ok (.iconst 3, 1) := by decide +kernel
theorem dX6_init_114 : decode cX6_init 114 = .ok (.iastore, 1) := by decide +kernel
theorem dX6_init_115 : decode cX6_init 115 = .ok (.iinc 1 1, 3) := by decide +kernel
theorem dX6_init_118 : decode cX6_init 118 = .ok (.goto (-16), 3) := by decide +kernel
theorem dX6_init_121 : decode cX6_init 121 = .ok (.return_, 1) := by decide +kernel
theorem dX6_takeFrom_0 : decode cX6_takeFrom 0 = .ok (.aload_n 0, 1) := by decide +kernel
theorem dX6_takeFrom_1 : decode cX6_takeFrom 1 = .ok (.aload_n 1, 1) := by decide +kernel
theorem dX6_takeFrom_2 : decode cX6_takeFrom 2 = .ok (.getfield 17, 3) := by decide +kernel
theorem dX6_takeFrom_5 : decode cX6_takeFrom 5 = .ok (.putfield 17, 3) := by decide +kernel
theorem dX6_takeFrom_8 : decode cX6_takeFrom 8 = .ok (.iconst 0, 1) := by decide +kernel
theorem dX6_takeFrom_9 : decode cX6_takeFrom 9 = .ok (.istore_n 2, 1) := by decide +kernel
theorem dX6_takeFrom_10 : decode cX6_takeFrom 10 = .ok (.iload_n 2, 1) := by decide +kernel
theorem dX6_takeFrom_11 : decode cX6_takeFrom 11 = .ok (.aload_n 0, 1) := by decide +kernel
theorem dX6_takeFrom_12 : decode cX6_takeFrom 12 = .ok (.getfield 17, 3) := by decide +kernel
theorem dX6_takeFrom_15 : decode cX6_takeFrom 15 = .ok (.if_icmp .ge 24, 3) := by decide +kernel
theorem dX6_takeFrom_18 : decode cX6_takeFrom 18 = .ok (.aload_n 0, 1) := by decide +kernel
theorem dX6_takeFrom_19 : decode cX6_takeFrom 19 = .ok (.getfield 11, 3) := by decide +kernel
theorem dX6_takeFrom_22 : decode cX6_takeFrom 22 = .ok (.iload_n 2, 1) := by decide +kernel
theorem dX6_takeFrom_23 : decode cX6_takeFrom 23 = .ok (.aaload, 1) := by decide +kernel
theorem dX6_takeFrom_24 : decode cX6_takeFrom 24 = .ok (.aload_n 1, 1) := by decide +kernel
theorem dX6_takeFrom_25 : decode cX6_takeFrom 25 = .ok (.getfield 11, 3) := by decide +kernel
theorem dX6_takeFrom_28 : decode cX6_takeFrom 28 = .ok (.iload_n 2, 1) := by decide +kernel
theorem dX6_takeFrom_29 : decode cX6_takeFrom 29 = .ok (.aaload, 1) := by decide +kernel
theorem dX6_takeFrom_30 : decode cX6_takeFrom 30 = .ok (.invokevirtual 35, 3) := by decide +kernel
theorem dX6_takeFrom_33 : decode cX6_takeFrom 33 = .ok (.iinc 2 1, 3) := by decide +kernel
theorem dX6_takeFrom_36 : decode cX6_takeFrom 36 = .ok (.goto (-26), 3) := by decide +kernel
theorem dX6_takeFrom_39 : decode cX6_takeFrom 39 = .ok (.aload_n 1, 1) := by decide +kernel
theorem dX6_takeFrom_40 : decode cX6_takeFrom 40 = .ok (.getfield 21, 3) := by decide +kernel
theorem dX6_takeFrom_43 : decode cX6_takeFrom 43 = .ok (.iconst 0, 1) := by decide +kernel
theorem dX6_takeFrom_44 : decode cX6_takeFrom 44 = .ok (.aload_n 0, 1) := by decide +kernel
theorem dX6_takeFrom_45 : decode cX6_takeFrom 45 = .ok (.getfield 21, 3) := by decide +kernel
theorem dX6_takeFrom_48 : decode cX6_takeFrom 48 = .ok (.iconst 0, 1) := by decide +kernel
theorem dX6_takeFrom_49 : decode cX6_takeFrom 49 = .ok (.bipush 8, 2) := by decide +kernel
theorem dX6_takeFrom_51 : decode cX6_takeFrom 51 = .ok (.invokestatic 39, 3) := by decide +kernel
theorem dX6_takeFrom_54 : decode cX6_takeFrom 54 = .ok (.aload_n 1, 1) := by decide +kernel
theorem dX6_takeFrom_55 : decode cX6_takeFrom 55 = .ok (.getfield 25, 3) := by decide +kernel
theorem dX6_takeFrom_58 : decode cX6_takeFrom 58 = .ok (.iconst 0, 1) := by decide +kernel
theorem dX6_takeFrom_59 : decode cX6_takeFrom 59 = .ok (.aload_n 0, 1) := by decide +kernel
theorem dX6_takeFrom_60 : decode cX6_takeFrom 60 = .ok (.getfield 25, 3) := by decide +kernel
theorem dX6_takeFrom_63 : decode cX6_takeFrom 63 = .ok (.iconst 0, 1) := by decide +kernel
theorem dX6_takeFrom_64 : decode cX6_takeFrom 64 = .ok (.bipush 12, 2) := by decide +kernel
theorem dX6_takeFrom_66 : decode cX6_takeFrom 66 = .ok (.invokestatic 39, 3) := by decide +kernel
theorem dX6_takeFrom_69 : decode cX6_takeFrom 69 = .ok (.aload_n 1, 1) := by decide +kernel
theorem dX6_takeFrom_70 : decode cX6_takeFrom 70 = .ok (.getfield 28, 3) := by decide +kernel
theorem dX6_takeFrom_73 : decode cX6_takeFrom 73 = .ok (.iconst 0, 1) := by decide +kernel
theorem dX6_takeFrom_74 : decode cX6_takeFrom 74 = .ok (.aload_n 0, 1) := by decide +kernel
theorem dX6_takeFrom_75 : decode cX6_takeFrom 75 = .ok (.getfield 28, 3) := by decide +kernel
theorem dX6_takeFrom_78 : decode cX6_takeFrom 78 = .ok (.iconst 0, 1) := by decide +kernel
theorem dX6_takeFrom_79 : decode cX6_takeFrom 79 = .ok (.bipush 12, 2) := by decide +kernel
theorem dX6_takeFrom_81 : decode cX6_takeFrom 81 = .ok (.invokestatic 39, 3) := by decide +kernel
theorem dX6_takeFrom_84 : decode cX6_takeFrom 84 = .ok (.return_, 1) := by decide +kernel
theorem dX6_has_0 : decode cX6_has 0 = .ok (.iload_n 1, 1) := by decide +kernel
theorem dX6_has_1 : decode cX6_has 1 = .ok (.iconst 0, 1) := by decide +kernel
theorem dX6_has_2 : decode cX6_has 2 = .ok (.aload_n 0, 1) := by decide +kernel
theorem dX6_has_3 : decode cX6_has 3 = .ok (.getfield 17, 3) := by decide +kernel
theorem dX6_has_6 : decode cX6_has 6 = .ok (.iconst 1, 1) := by decide +kernel
theorem dX6_has_7 : decode cX6_has 7 = .ok (.isub, 1) := by decide +kernel
theorem dX6_has_8 : decode cX6_has 8 = .ok (.invokestatic 45, 3) := by decide +kernel
theorem dX6_has_11 : decode cX6_has 11 = .ok (.ireturn, 1) := by decide +kernel
theorem dX6_isFull_0 : decode cX6_isFull 0 = .ok (.aload_n 0, 1) := by decide +kernel
theorem dX6_isFull_1 : decode cX6_isFull 1 = .ok (.getfield 17, 3) := by decide +kernel
theorem dX6_isFull_4 : decode cX6_isFull 4 = .ok (.bipush 14, 2) := by decide +kernel
theorem dX6_isFull_6 : decode cX6_isFull 6 = .ok (.if_icmp .lt 7, 3) := by decide +kernel
theorem dX6_isFull_9 : decode cX6_isFull 9 = .ok (.iconst 1, 1) := by decide +kernel
theorem dX6_isFull_10 : decode cX6_isFull 10 = .ok (.goto 4, 3) := by decide +kernel
theorem dX6_isFull_13 : decode cX6_isFull 13 = .ok (.iconst 0, 1) := by decide +kernel
theorem dX6_isFull_14 : decode cX6_isFull 14 = .ok (.ireturn, 1) := by decide +kernel
theorem dX6_add_0 : decode cX6_add 0 = .ok (.aload_n 0, 1) := by decide +kernel
theorem dX6_add_1 : decode cX6_add 1 = .ok (.invokevirtual 49, 3) := by decide +kernel
theorem dX6_add_4 : decode cX6_add 4 = .ok (.ifCond .eq 5, 3) := by decide +kernel
theorem dX6_add_7 : decode cX6_add 7 = .ok (.iconst (-1), 1) := by decide +kernel
theorem dX6_add_8 : decode cX6_add 8 = .ok (.ireturn, 1) := by decide +kernel
theorem dX6_add_9 : decode cX6_add 9 = .ok (.aload_n 0, 1) := by decide +kernel
theorem dX6_add_10 : decode cX6_add 10 = .ok (.getfield 11, 3) := by decide +kernel
theorem dX6_add_13 : decode cX6_add 13 = .ok (.aload_n 0, 1) := by decide +kernel
theorem dX6_add_14 : decode cX6_add 14 = .ok (.getfield 17, 3) := by decide +kernel
theorem dX6_add_17 : decode cX6_add 17 = .ok (.aaload, 1) := by decide +kernel
theorem dX6_add_18 : decode cX6_add 18 = .ok (.astore 6, 2) := by decide +kernel
theorem dX6_add_20 : decode cX6_add 20 = .ok (.aload 6, 2) := by decide +kernel
theorem dX6_add_22 : decode cX6_add 22 = .ok (.iload_n 1, 1) := by decide +kernel
theorem dX6_add_23 : decode cX6_add 23 = .ok (.putfield 53, 3) := by decide +kernel
theorem dX6_add_26 : decode cX6_add 26 = .ok (.aload 6, 2) := by decide +kernel
theorem dX6_add_28 : decode cX6_add 28 = .ok (.iload_n 2, 1) := by decide +kernel
theorem dX6_add_29 : decode cX6_add 29 = .ok (.putfield 56, 3) := by decide +kernel
theorem dX6_add_32 : decode cX6_add 32 = .ok (.aload 6, 2) := by decide +kernel
theorem dX6_add_34 : decode cX6_add 34 = .ok (.iload_n 3, 1) := by decide +kernel
theorem dX6_add_35 : decode cX6_add 35 = .ok (.putfield 59, 3) := by decide +kernel
theorem dX6_add_38 : decode cX6_add 38 = .ok (.aload 6, 2) := by decide +kernel
theorem dX6_add_40 : decode cX6_add 40 = .ok (.iload 4, 2) := by decide +kernel
theorem dX6_add_42 : decode cX6_add 42 = .ok (.putfield 62, 3) := by decide +kernel
theorem dX6_add_45 : decode cX6_add 45 = .ok (.aload 6, 2) := by decide +kernel
theorem dX6_add_47 : decode cX6_add 47 = .ok (.iload 5, 2) := by decide +kernel
theorem dX6_add_49 : decode cX6_add 49 = .ok (.putfield 65, 3) := by decide +kernel
theorem dX6_add_52 : decode cX6_add 52 = .ok (.aload_n 0, 1) := by decide +kernel
theorem dX6_add_53 : decode cX6_add 53 = .ok (.dup, 1) := by decide +kernel
theorem dX6_add_54 : decode cX6_add 54 = .ok (.getfield 17, 3) := by decide +kernel
theorem dX6_add_57 : decode cX6_add 57 = .ok (.iconst 1, 1) := by decide +kernel
theorem dX6_add_58 : decode cX6_add 58 = .ok (.iadd, 1) := by decide +kernel
theorem dX6_add_59 : decode cX6_add 59 = .ok (.putfield 17, 3) := by decide +kernel
theorem dX6_add_62 : decode cX6_add 62 = .ok (.aload_n 0, 1) := by decide +kernel
theorem dX6_add_63 : decode cX6_add 63 = .ok (.getfield 17, 3) := by decide +kernel
theorem dX6_add_66 : decode cX6_add 66 = .ok (.iconst 1, 1) := by decide +kernel
theorem dX6_add_67 : decode cX6_add 67 = .ok (.isub, 1) := by decide +kernel
theorem dX6_add_68 : decode cX6_add 68 = .ok (.ireturn, 1) := by decide +kernel
theorem dX6_neighbours_0 : decode cX6_neighbours 0 = .ok (.iconst 0, 1) := by decide +kernel
theorem dX6_neighbours_1 : decode cX6_neighbours 1 = .ok (.istore_n 2, 1) := by decide +kernel
theorem dX6_neighbours_2 : decode cX6_neighbours 2 = .ok (.iconst 0, 1) := by decide +kernel
theorem dX6_neighbours_3 : decode cX6_neighbours 3 = .ok (.istore_n 3, 1) := by decide +kernel
theorem dX6_neighbours_4 : decode cX6_neighbours 4 = .ok (.iload_n 3, 1) := by decide +kernel
theorem dX6_neighbours_5 : decode cX6_neighbours 5 = .ok (.aload_n 0, 1) := by decide +kernel
theorem dX6_neighbours_6 : decode cX6_neighbours 6 = .ok (.getfield 17, 3) := by decide +kernel
theorem dX6_neighbours_9 : decode cX6_neighbours 9 = .ok (.if_icmp .ge 33, 3) := by decide +kernel
theorem dX6_neighbours_12 : decode cX6_neighbours 12 = .ok (.aload_n 0, 1) := by decide +kernel
theorem dX6_neighbours_13 : decode cX6_neighbours 13 = .ok (.getfield 11, 3) := by decide +kernel
theorem dX6_neighbours_16 : decode cX6_neighbours 16 = .ok (.iload_n 3, 1) := by decide +kernel
theorem dX6_neighbours_17 : decode cX6_neighbours 17 = .ok (.aaload, 1) := by decide +kernel
theorem dX6_neighbours_18 : decode cX6_neighbours 18 = .ok (.iload_n 1, 1) := by decide +kernel
theorem dX6_neighbours_19 : decode cX6_neighbours 19 = .ok (.invokevirtual 68, 3) := by decide +kernel
theorem dX6_neighbours_22 : decode cX6_neighbours 22 = .ok (.istore 4, 2) := by decide +kernel
theorem dX6_neighbours_24 : decode cX6_neighbours 24 = .ok (.iload 4, 2) := by decide +kernel
theorem dX6_neighbours_26 : decode cX6_neighbours 26 = .ok (.ifCond .lt 10, 3) := by decide +kernel
theorem dX6_neighbours_29 : decode cX6_neighbours 29 = .ok (.iload_n 2, 1) := by decide +kernel
theorem dX6_neighbours_30 : decode cX6_neighbours 30 = .ok (.iconst 1, 1) := by decide +kernel
theorem dX6_neighbours_31 : decode cX6_neighbours 31 = .ok (.iload 4, 2) := by decide +kernel
theorem dX6_neighbours_33 : decode cX6_neighbours 33 = .ok (.ishl, 1) := by decide +kernel
theorem dX6_neighbours_34 : decode cX6_neighbours 34 = .ok (.ior, 1) := by decide +kernel
theorem dX6_neighbours_35 : decode cX6_neighbours 35 = .ok (.istore_n 2, 1) := by decide +kernel
theorem dX6_neighbours_36 : decode cX6_neighbours 36 = .ok (.iinc 3 1, 3) := by decide +kernel
theorem dX6_neighbours_39 : decode cX6_neighbours 39 = .ok (.goto (-35), 3) := by decide +kernel
theorem dX6_neighbours_42 : decode cX6_neighbours 42 = .ok (.iload_n 2, 1) := by decide +kernel
theorem dX6_neighbours_43 : decode cX6_neighbours 43 = .ok (.ireturn, 1) := by decide +kernel
theorem dX6_between_0 : decode cX6_between 0 = .ok (.iconst 0, 1) := by decide +kernel
theorem dX6_between_1 : decode cX6_between 1 = .ok (.istore_n 3, 1) := by decide +kernel
theorem dX6_between_2 : decode cX6_between 2 = .ok (.iload_n 3, 1) := by decide +kernel
theorem dX6_between_3 : decode cX6_between 3 = .ok (.aload_n 0, 1) := by decide +kernel
theorem dX6_between_4 : decode cX6_between 4 = .ok (.getfield 17, 3) := by decide +kernel
theorem dX6_between_7 : decode cX6_between 7 = .ok (.if_icmp .ge 25, 3) := by decide +kernel
theorem dX6_between_10 : decode cX6_between 10 = .ok (.aload_n 0, 1) := by decide +kernel
theorem dX6_between_11 : decode cX6_between 11 = .ok (.getfield 11, 3) := by decide +kernel
theorem dX6_between_14 : decode cX6_between 14 = .ok (.iload_n 3, 1) := by decide +kernel
theorem dX6_between_15 : decode cX6_between 15 = .ok (.aaload, 1) := by decide +kernel
theorem dX6_between_16 : decode cX6_between 16 = .ok (.iload_n 1, 1) := by decide +kernel
theorem dX6_between_17 : decode cX6_between 17 = .ok (.invokevirtual 68, 3) := by decide +kernel
theorem dX6_between_20 : decode cX6_between 20 = .ok (.iload_n 2, 1) := by decide +kernel
theorem dX6_between_21 : decode cX6_between 21 = .ok (.if_icmp .ne 5, 3) := by decide +kernel
theorem dX6_between_24 : decode cX6_between 24 = .ok (.iload_n 3, 1) := by decide +kernel
theorem dX6_between_25 : decode cX6_between 25 = .ok (.ireturn, 1) := by decide +kernel
theorem dX6_between_26 : decode cX6_between 26 = .ok (.iinc 3 1, 3) := by decide +kernel
theorem dX6_between_29 : decode cX6_between 29 = .ok (.goto (-27), 3) := by decide +kernel
theorem dX6_between_32 : decode cX6_between 32 = .ok (.iconst (-1), 1) := by decide +kernel
theorem dX6_between_33 : decode cX6_between 33 = .ok (.ireturn, 1) := by decide +kernel
theorem dX6_quartersOnStreets_0 : decode cX6_quartersOnStreets 0 = .ok (.iconst 0, 1) := by decide +kernel
theorem dX6_quartersOnStreets_1 : decode cX6_quartersOnStreets 1 = .ok (.istore_n 1, 1) := by decide +kernel
theorem dX6_quartersOnStreets_2 : decode cX6_quartersOnStreets 2 = .ok (.iconst 0, 1) := by decide +kernel
theorem dX6_quartersOnStreets_3 : decode cX6_quartersOnStreets 3 = .ok (.istore_n 2, 1) := by decide +kernel
theorem dX6_quartersOnStreets_4 : decode cX6_quartersOnStreets 4 = .ok (.iload_n 2, 1) := by decide +kernel
theorem dX6_quartersOnStreets_5 : decode cX6_quartersOnStreets 5 = .ok (.aload_n 0, 1) := by decide +kernel
theorem dX6_quartersOnStreets_6 : decode cX6_quartersOnStreets 6 = .ok (.getfield 17, 3) := by decide +kernel
theorem dX6_quartersOnStreets_9 : decode cX6_quartersOnStreets 9 = .ok (.if_icmp .ge 45, 3) := by decide +kernel
theorem dX6_quartersOnStreets_12 : decode cX6_quartersOnStreets 12 = .ok (.iload_n 1, 1) := by decide +kernel
theorem dX6_quartersOnStreets_13 : decode cX6_quartersOnStreets 13 = .ok (.iconst 1, 1) := by decide +kernel
theorem dX6_quartersOnStreets_14 : decode cX6_quartersOnStreets 14 = .ok (.aload_n 0, 1) := by decide +kernel
theorem dX6_quartersOnStreets_15 : decode cX6_quartersOnStreets 15 = .ok (.getfield 21, 3) := by decide +kernel
theorem dX6_quartersOnStreets_18 : decode cX6_quartersOnStreets 18 = .ok (.aload_n 0, 1) := by decide +kernel
theorem dX6_quartersOnStreets_19 : decode cX6_quartersOnStreets 19 = .ok (.getfield 11, 3) := by decide +kernel
theorem dX6_quartersOnStreets_22 : decode cX6_quartersOnStreets 22 = .ok (.iload_n 2, 1) := by decide +kernel
theorem dX6_quartersOnStreets_23 : decode cX6_quartersOnStreets 23 = .ok (.aaload, 1) := by decide +kernel
theorem dX6_quartersOnStreets_24 : decode cX6_quartersOnStreets 24 = .ok (.getfield 56, 3) := by decide +kernel
theorem dX6_quartersOnStreets_27 : decode cX6_quartersOnStreets 27 = .ok (.iaload, 1) := by decide +kernel
theorem dX6_quartersOnStreets_28 : decode cX6_quartersOnStreets 28 = .ok (.ishl, 1) := by decide +kernel
theorem dX6_quartersOnStreets_29 : decode cX6_quartersOnStreets 29 = .ok (.iconst 1, 1) := by decide +kernel
theorem dX6_quartersOnStreets_30 : decode cX6_quartersOnStreets 30 = .ok (.aload_n 0, 1) := by decide +kernel
theorem dX6_quartersOnStreets_31 : decode cX6_quartersOnStreets 31 = .ok (.getfield 21, 3) := by decide +kernel
theorem dX6_quartersOnStreets_34 : decode cX6_quartersOnStreets 34 = .ok (.aload_n 0, 1) := by decide +kernel
theorem dX6_quartersOnStreets_35 : decode cX6_quartersOnStreets 35 = .ok (.getfield 11, 3) := by decide +kernel
theorem dX6_quartersOnStreets_38 : decode cX6_quartersOnStreets 38 = .ok (.iload_n 2, 1) := by decide +kernel
theorem dX6_quartersOnStreets_39 : decode cX6_quartersOnStreets 39 = .ok (.aaload, 1) := by decide +kernel
theorem dX6_quartersOnStreets_40 : decode cX6_quartersOnStreets 40 = .ok (.getfield 59, 3) := by decide +kernel
theorem dX6_quartersOnStreets_43 : decode cX6_quartersOnStreets 43 = .ok (.iaload, 1) := by decide +kernel
theorem dX6_quartersOnStreets_44 : decode cX6_quartersOnStreets 44 = .ok (.ishl, 1) := by decide +kernel
theorem dX6_quartersOnStreets_45 : decode cX6_quartersOnStreets 45 = .ok (.ior, 1) := by decide +kernel
theorem dX6_quartersOnStreets_46 : decode cX6_quartersOnStreets 46 = .ok (.ior, 1) := by decide +kernel
theorem dX6_quartersOnStreets_47 : decode cX6_quartersOnStreets 47 = .ok (.istore_n 1, 1) := by decide +kernel
theorem dX6_quartersOnStreets_48 : decode cX6_quartersOnStreets 48 = .ok (.iinc 2 1, 3) := by decide +kernel
theorem dX6_quartersOnStreets_51 : decode cX6_quartersOnStreets 51 = .ok (.goto (-47), 3) := by decide +kernel
theorem dX6_quartersOnStreets_54 : decode cX6_quartersOnStreets 54 = .ok (.iload_n 1, 1) := by decide +kernel
theorem dX6_quartersOnStreets_55 : decode cX6_quartersOnStreets 55 = .ok (.ireturn, 1) := by decide +kernel
theorem dX6_tellLosses_0 : decode cX6_tellLosses 0 = .ok (.iload 4, 2) := by decide +kernel
theorem dX6_tellLosses_2 : decode cX6_tellLosses 2 = .ok (.ifCond .lt 13, 3) := by decide +kernel
theorem dX6_tellLosses_5 : decode cX6_tellLosses 5 = .ok (.iload 4, 2) := by decide +kernel
theorem dX6_tellLosses_7 : decode cX6_tellLosses 7 = .ok (.aload_n 3, 1) := by decide +kernel
theorem dX6_tellLosses_8 : decode cX6_tellLosses 8 = .ok (.arraylength, 1) := by decide +kernel
theorem dX6_tellLosses_9 : decode cX6_tellLosses 9 = .ok (.bipush 12, 2) := by decide +kernel
theorem dX6_tellLosses_11 : decode cX6_tellLosses 11 = .ok (.isub, 1) := by decide +kernel
theorem dX6_tellLosses_12 : decode cX6_tellLosses 12 = .ok (.if_icmp .le 4, 3) := by decide +kernel
theorem dX6_tellLosses_15 : decode cX6_tellLosses 15 = .ok (.return_, 1) := by decide +kernel
theorem dX6_tellLosses_16 : decode cX6_tellLosses 16 = .ok (.aload_n 0, 1) := by decide +kernel
theorem dX6_tellLosses_17 : decode cX6_tellLosses 17 = .ok (.getfield 11, 3) := by decide +kernel
theorem dX6_tellLosses_20 : decode cX6_tellLosses 20 = .ok (.iload_n 1, 1) := by decide +kernel
theorem dX6_tellLosses_21 : decode cX6_tellLosses 21 = .ok (.aaload, 1) := by decide +kernel
theorem dX6_tellLosses_22 : decode cX6_tellLosses 22 = .ok (.astore 5, 2) := by decide +kernel
theorem dX6_tellLosses_24 : decode cX6_tellLosses 24 = .ok (.iconst 0, 1) := by decide +kernel
theorem dX6_tellLosses_25 : decode cX6_tellLosses 25 = .ok (.istore 6, 2) := by decide +kernel
theorem dX6_tellLosses_27 : decode cX6_tellLosses 27 = .ok (.iload 6, 2) := by decide +kernel
theorem dX6_tellLosses_29 : decode cX6_tellLosses 29 = .ok (.bipush 12, 2) := by decide +kernel
theorem dX6_tellLosses_31 : decode cX6_tellLosses 31 = .ok (.if_icmp .ge 36, 3) := by decide +kernel
theorem dX6_tellLosses_34 : decode cX6_tellLosses 34 = .ok (.aload_n 3, 1) := by decide +kernel
theorem dX6_tellLosses_35 : decode cX6_tellLosses 35 = .ok (.iload 4, 2) := by decide +kernel
theorem dX6_tellLosses_37 : decode cX6_tellLosses 37 = .ok (.iload 6, 2) := by decide +kernel
theorem dX6_tellLosses_39 : decode cX6_tellLosses 39 = .ok (.iadd, 1) := by decide +kernel
theorem dX6_tellLosses_40 : decode cX6_tellLosses 40 = .ok (.aload 5, 2) := by decide +kernel
theorem dX6_tellLosses_42 : decode cX6_tellLosses 42 = .ok (.aload_n 0, 1) := by decide +kernel
theorem dX6_tellLosses_43 : decode cX6_tellLosses 43 = .ok (.getfield 25, 3) := by decide +kernel
theorem dX6_tellLosses_46 : decode cX6_tellLosses 46 = .ok (.iload 6, 2) := by decide +kernel
theorem dX6_tellLosses_48 : decode cX6_tellLosses 48 = .ok (.iaload, 1) := by decide +kernel
theorem dX6_tellLosses_49 : decode cX6_tellLosses 49 = .ok (.aload_n 0, 1) := by decide +kernel
theorem dX6_tellLosses_50 : decode cX6_tellLosses 50 = .ok (.getfield 28, 3) := by decide +kernel
theorem dX6_tellLosses_53 : decode cX6_tellLosses 53 = .ok (.iload 6, 2) := by decide +kernel
theorem dX6_tellLosses_55 : decode cX6_tellLosses 55 = .ok (.iaload, 1) := by decide +kernel
theorem dX6_tellLosses_56 : decode cX6_tellLosses 56 = .ok (.iload_n 2, 1) := by decide +kernel
theorem dX6_tellLosses_57 : decode cX6_tellLosses 57 = .ok (.invokevirtual 72, 3) := by decide +kernel
theorem dX6_tellLosses_60 : decode cX6_tellLosses 60 = .ok (.iastore, 1) := by decide +kernel
theorem dX6_tellLosses_61 : decode cX6_tellLosses 61 = .ok (.iinc 6 1, 3) := by decide +kernel
theorem dX6_tellLosses_64 : decode cX6_tellLosses 64 = .ok (.goto (-37), 3) := by decide +kernel
theorem dX6_tellLosses_67 : decode cX6_tellLosses 67 = .ok (.return_, 1) := by decide +kernel
theorem dX6_lossAlong_0 : decode cX6_lossAlong 0 = .ok (.aload_n 0, 1) := by decide +kernel
theorem dX6_lossAlong_1 : decode cX6_lossAlong 1 = .ok (.iload_n 1, 1) := by decide +kernel
theorem dX6_lossAlong_2 : decode cX6_lossAlong 2 = .ok (.iload_n 3, 1) := by decide +kernel
theorem dX6_lossAlong_3 : decode cX6_lossAlong 3 = .ok (.aload_n 0, 1) := by decide +kernel
theorem dX6_lossAlong_4 : decode cX6_lossAlong 4 = .ok (.getfield 31, 3) := by decide +kernel
theorem dX6_lossAlong_7 : decode cX6_lossAlong 7 = .ok (.iconst 0, 1) := by decide +kernel
theorem dX6_lossAlong_8 : decode cX6_lossAlong 8 = .ok (.invokevirtual 76, 3) := by decide +kernel
theorem dX6_lossAlong_11 : decode cX6_lossAlong 11 = .ok (.aload_n 0, 1) := by decide +kernel
theorem dX6_lossAlong_12 : decode cX6_lossAlong 12 = .ok (.getfield 31, 3) := by decide +kernel
theorem dX6_lossAlong_15 : decode cX6_lossAlong 15 = .ok (.iconst 0, 1) := by decide +kernel
theorem dX6_lossAlong_16 : decode cX6_lossAlong 16 = .ok (.iload_n 2, 1) := by decide +kernel
theorem dX6_lossAlong_17 : decode cX6_lossAlong 17 = .ok (.aload_n 0, 1) := by decide +kernel
theorem dX6_lossAlong_18 : decode cX6_lossAlong 18 = .ok (.getfield 11, 3) := by decide +kernel
theorem dX6_lossAlong_21 : decode cX6_lossAlong 21 = .ok (.iload_n 1, 1) := by decide +kernel
theorem dX6_lossAlong_22 : decode cX6_lossAlong 22 = .ok (.aaload, 1) := by decide +kernel
theorem dX6_lossAlong_23 : decode cX6_lossAlong 23 = .ok (.invokevirtual 80, 3) := by decide +kernel
theorem dX6_lossAlong_26 : decode cX6_lossAlong 26 = .ok (.invokestatic 84, 3) := by decide +kernel
theorem dX6_lossAlong_29 : decode cX6_lossAlong 29 = .ok (.ireturn, 1) := by decide +kernel
theorem dX6_sumAlong_0 : decode cX6_sumAlong 0 = .ok (.iload_n 2, 1) := by decide +kernel
theorem dX6_sumAlong_1 : decode cX6_sumAlong 1 = .ok (.iload_n 3, 1) := by decide +kernel
theorem dX6_sumAlong_2 : decode cX6_sumAlong 2 = .ok (.iadd, 1) := by decide +kernel
theorem dX6_sumAlong_3 : decode cX6_sumAlong 3 = .ok (.istore 4, 2) := by decide +kernel
theorem dX6_sumAlong_5 : decode cX6_sumAlong 5 = .ok (.iload_n 2, 1) := by decide +kernel
theorem dX6_sumAlong_6 : decode cX6_sumAlong 6 = .ok (.istore 5, 2) := by decide +kernel
theorem dX6_sumAlong_8 : decode cX6_sumAlong 8 = .ok (.iconst 0, 1) := by decide +kernel
theorem dX6_sumAlong_9 : decode cX6_sumAlong 9 = .ok (.istore 6, 2) := by decide +kernel
theorem dX6_sumAlong_11 : decode cX6_sumAlong 11 = .ok (.iload_n 2, 1) := by decide +kernel
theorem dX6_sumAlong_12 : decode cX6_sumAlong 12 = .ok (.bipush 20, 2) := by decide +kernel
theorem dX6_sumAlong_14 : decode cX6_sumAlong 14 = .ok (.idiv, 1) := by decide +kernel
theorem dX6_sumAlong_15 : decode cX6_sumAlong 15 = .ok (.bipush 11, 2) := by decide +kernel
theorem dX6_sumAlong_17 : decode cX6_sumAlong 17 = .ok (.invokestatic 88, 3) := by decide +kernel
theorem dX6_sumAlong_20 : decode cX6_sumAlong 20 = .ok (.istore 7, 2) := by decide +kernel
theorem dX6_sumAlong_22 : decode cX6_sumAlong 22 = .ok (.iload 7, 2) := by decide +kernel
theorem dX6_sumAlong_24 : decode cX6_sumAlong 24 = .ok (.bipush 12, 2) := by decide +kernel
theorem dX6_sumAlong_26 : decode cX6_sumAlong 26 = .ok (.if_icmp .ge 63, 3) := by decide +kernel
theorem dX6_sumAlong_29 : decode cX6_sumAlong 29 = .ok (.iload 5, 2) := by decide +kernel
theorem dX6_sumAlong_31 : decode cX6_sumAlong 31 = .ok (.iload 4, 2) := by decide +kernel
theorem dX6_sumAlong_33 : decode cX6_sumAlong 33 = .ok (.if_icmp .ge 56, 3) := by decide +kernel
theorem dX6_sumAlong_36 : decode cX6_sumAlong 36 = .ok (.iload 7, 2) := by decide +kernel
theorem dX6_sumAlong_38 : decode cX6_sumAlong 38 = .ok (.bipush 11, 2) := by decide +kernel
theorem dX6_sumAlong_40 : decode cX6_sumAlong 40 = .ok (.if_icmp .ge 18, 3) := by decide +kernel
theorem dX6_sumAlong_43 : decode cX6_sumAlong 43 = .ok (.iload 4, 2) := by decide +kernel
theorem dX6_sumAlong_45 : decode cX6_sumAlong 45 = .ok (.iload 7, 2) := by decide +kernel
theorem dX6_sumAlong_47 : decode cX6_sumAlong 47 = .ok (.iconst 1, 1) := by decide +kernel
theorem dX6_sumAlong_48 : decode cX6_sumAlong 48 = .ok (.iadd, 1) := by decide +kernel
theorem dX6_sumAlong_49 : decode cX6_sumAlong 49 = .ok (.bipush 20, 2) := by decide +kernel
theorem dX6_sumAlong_51 : decode cX6_sumAlong 51 = .ok (.imul, 1) := by decide +kernel
theorem dX6_sumAlong_52 : decode cX6_sumAlong 52 = .ok (.invokestatic 88, 3) := by decide +kernel
theorem dX6_sumAlong_55 : decode cX6_sumAlong 55 = .ok (.goto 5, 3) := by decide +kernel
theorem dX6_sumAlong_58 : decode cX6_sumAlong 58 = .ok (.iload 4, 2) := by decide +kernel
theorem dX6_sumAlong_60 : decode cX6_sumAlong 60 = .ok (.istore 8, 2) := by decide +kernel
theorem dX6_sumAlong_62 : decode cX6_sumAlong 62 = .ok (.iload 6, 2) := by decide +kernel
theorem dX6_sumAlong_64 : decode cX6_sumAlong 64 = .ok (.iload 8, 2) := by decide +kernel
theorem dX6_sumAlong_66 : decode cX6_sumAlong 66 = .ok (.iload 5, 2) := by decide +kernel
theorem dX6_sumAlong_68 : decode cX6_sumAlong 68 = .ok (.isub, 1) := by decide +kernel
theorem dX6_sumAlong_69 : decode cX6_sumAlong 69 = .ok (.aload_n 0, 1) := by decide +kernel
theorem dX6_sumAlong_70 : decode cX6_sumAlong 70 = .ok (.iload_n 1, 1) := by decide +kernel
theorem dX6_sumAlong_71 : decode cX6_sumAlong 71 = .ok (.iload 7, 2) := by decide +kernel
theorem dX6_sumAlong_73 : decode cX6_sumAlong 73 = .ok (.iadd, 1) := by decide +kernel
theorem dX6_sumAlong_74 : decode cX6_sumAlong 74 = .ok (.iaload, 1) := by decide +kernel
theorem dX6_sumAlong_75 : decode cX6_sumAlong 75 = .ok (.imul, 1) := by decide +kernel
theorem dX6_sumAlong_76 : decode cX6_sumAlong 76 = .ok (.iadd, 1) := by decide +kernel
theorem dX6_sumAlong_77 : decode cX6_sumAlong 77 = .ok (.istore 6, 2) := by decide +kernel
theorem dX6_sumAlong_79 : decode cX6_sumAlong 79 = .ok (.iload 8, 2) := by decide +kernel
theorem dX6_sumAlong_81 : decode cX6_sumAlong 81 = .ok (.istore 5, 2) := by decide +kernel
theorem dX6_sumAlong_83 : decode cX6_sumAlong 83 = .ok (.iinc 7 1, 3) := by decide +kernel
theorem dX6_sumAlong_86 : decode cX6_sumAlong 86 = .ok (.goto (-64), 3) := by decide +kernel
theorem dX6_sumAlong_89 : decode cX6_sumAlong 89 = .ok (.iload 6, 2) := by decide +kernel
theorem dX6_sumAlong_91 : decode cX6_sumAlong 91 = .ok (.ireturn, 1) := by decide +kernel
theorem dX6_takesOfAll_0 : decode cX6_takesOfAll 0 = .ok (.iconst 0, 1) := by decide +kernel
theorem dX6_takesOfAll_1 : decode cX6_takesOfAll 1 = .ok (.istore_n 1, 1) := by decide +kernel
theorem dX6_takesOfAll_2 : decode cX6_takesOfAll 2 = .ok (.iconst 0, 1) := by decide +kernel
theorem dX6_takesOfAll_3 : decode cX6_takesOfAll 3 = .ok (.istore_n 2, 1) := by decide +kernel
theorem dX6_takesOfAll_4 : decode cX6_takesOfAll 4 = .ok (.iload_n 2, 1) := by decide +kernel
theorem dX6_takesOfAll_5 : decode cX6_takesOfAll 5 = .ok (.aload_n 0, 1) := by decide +kernel
theorem dX6_takesOfAll_6 : decode cX6_takesOfAll 6 = .ok (.getfield 17, 3) := by decide +kernel
theorem dX6_takesOfAll_9 : decode cX6_takesOfAll 9 = .ok (.if_icmp .ge 21, 3) := by decide +kernel
theorem dX6_takesOfAll_12 : decode cX6_takesOfAll 12 = .ok (.iload_n 1, 1) := by decide +kernel
theorem dX6_takesOfAll_13 : decode cX6_takesOfAll 13 = .ok (.aload_n 0, 1) := by decide +kernel
theorem dX6_takesOfAll_14 : decode cX6_takesOfAll 14 = .ok (.getfield 11, 3) := by decide +kernel
theorem dX6_takesOfAll_17 : decode cX6_takesOfAll 17 = .ok (.iload_n 2, 1) := by decide +kernel
theorem dX6_takesOfAll_18 : decode cX6_takesOfAll 18 = .ok (.aaload, 1) := by decide +kernel
theorem dX6_takesOfAll_19 : decode cX6_takesOfAll 19 = .ok (.invokevirtual 80, 3) := by decide +kernel
theorem dX6_takesOfAll_22 : decode cX6_takesOfAll 22 = .ok (.iadd, 1) := by decide +kernel
theorem dX6_takesOfAll_23 : decode cX6_takesOfAll 23 = .ok (.istore_n 1, 1) := by decide +kernel
theorem dX6_takesOfAll_24 : decode cX6_takesOfAll 24 = .ok (.iinc 2 1, 3) := by decide +kernel
theorem dX6_takesOfAll_27 : decode cX6_takesOfAll 27 = .ok (.goto (-23), 3) := by decide +kernel
theorem dX6_takesOfAll_30 : decode cX6_takesOfAll 30 = .ok (.iload_n 1, 1) := by decide +kernel
theorem dX6_takesOfAll_31 : decode cX6_takesOfAll 31 = .ok (.ireturn, 1) := by decide +kernel
theorem dX6_umbrellas_0 : decode cX6_umbrellas 0 = .ok (.iconst 0, 1) := by decide +kernel
theorem dX6_umbrellas_1 : decode cX6_umbrellas 1 = .ok (.istore_n 1, 1) := by decide +kernel
theorem dX6_umbrellas_2 : decode cX6_umbrellas 2 = .ok (.iconst 0, 1) := by decide +kernel
theorem dX6_umbrellas_3 : decode cX6_umbrellas 3 = .ok (.istore_n 2, 1) := by decide +kernel
theorem dX6_umbrellas_4 : decode cX6_umbrellas 4 = .ok (.iload_n 2, 1) := by decide +kernel
theorem dX6_umbrellas_5 : decode cX6_umbrellas 5 = .ok (.aload_n 0, 1) := by decide +kernel
theorem dX6_umbrellas_6 : decode cX6_umbrellas 6 = .ok (.getfield 17, 3) := by decide +kernel
theorem dX6_umbrellas_9 : decode cX6_umbrellas 9 = .ok (.if_icmp .ge 21, 3) := by decide +kernel
theorem dX6_umbrellas_12 : decode cX6_umbrellas 12 = .ok (.iload_n 1, 1) := by decide +kernel
theorem dX6_umbrellas_13 : decode cX6_umbrellas 13 = .ok (.aload_n 0, 1) := by decide +kernel
theorem dX6_umbrellas_14 : decode cX6_umbrellas 14 = .ok (.getfield 11, 3) := by decide +kernel
theorem dX6_umbrellas_17 : decode cX6_umbrellas 17 = .ok (.iload_n 2, 1) := by decide +kernel
theorem dX6_umbrellas_18 : decode cX6_umbrellas 18 = .ok (.aaload, 1) := by decide +kernel
theorem dX6_umbrellas_19 : decode cX6_umbrellas 19 = .ok (.getfield 65, 3) := by decide +kernel
theorem dX6_umbrellas_22 : decode cX6_umbrellas 22 = .ok (.iadd, 1) := by decide +kernel
theorem dX6_umbrellas_23 : decode cX6_umbrellas 23 = .ok (.istore_n 1, 1) := by decide +kernel
theorem dX6_umbrellas_24 : decode cX6_umbrellas 24 = .ok (.iinc 2 1, 3) := by decide +kernel
theorem dX6_umbrellas_27 : decode cX6_umbrellas 27 = .ok (.goto (-23), 3) := by decide +kernel
theorem dX6_umbrellas_30 : decode cX6_umbrellas 30 = .ok (.iload_n 1, 1) := by decide +kernel
theorem dX6_umbrellas_31 : decode cX6_umbrellas 31 = .ok (.ireturn, 1) := by decide +kernel
theorem dX7_init_0 : decode cX7_init 0 = .ok (.aload_n 0, 1) := by decide +kernel
theorem dX7_init_1 : decode cX7_init 1 = .ok (.invokespecial 1, 3) := by decide +kernel
theorem dX7_init_4 : decode cX7_init 4 = .ok (.aload_n 0, 1) := by decide +kernel
theorem dX7_init_5 : decode cX7_init 5 = .ok (.new 7, 3) := by decide +kernel
theorem dX7_init_8 : decode cX7_init 8 = .ok (.dup, 1) := by decide +kernel
theorem dX7_init_9 : decode cX7_init 9 = .ok (.invokespecial 9, 3) := by decide +kernel
theorem dX7_init_12 : decode cX7_init 12 = .ok (.putfield 10, 3) := by decide +kernel
theorem dX7_init_15 : decode cX7_init 15 = .ok (.aload_n 0, 1) := by decide +kernel
theorem dX7_init_16 : decode cX7_init 16 = .ok (.new 7, 3) := by decide +kernel
theorem dX7_init_19 : decode cX7_init 19 = .ok (.dup, 1) := by decide +kernel
theorem dX7_init_20 : decode cX7_init 20 = .ok (.invokespecial 9, 3) := by decide +kernel
theorem dX7_init_23 : decode cX7_init 23 = .ok (.putfield 16, 3) := by decide +kernel
theorem dX7_init_26 : decode cX7_init 26 = .ok (.aload_n 0, 1) := by decide +kernel
theorem dX7_init_27 : decode cX7_init 27 = .ok (.iconst 0, 1) := by decide +kernel
theorem dX7_init_28 : decode cX7_init 28 = .ok (.putfield 19, 3) := by decide +kernel
theorem dX7_init_31 : decode cX7_init 31 = .ok (.aload_n 0, 1) := by decide +kernel
theorem dX7_init_32 : decode cX7_init 32 = .ok (.new 23, 3) := by decide +kernel
theorem dX7_init_35 : decode cX7_init 35 = .ok (.dup, 1) := by decide +kernel
theorem dX7_init_36 : decode cX7_init 36 = .ok (.invokespecial 25, 3) := by decide +kernel
theorem dX7_init_39 : decode cX7_init 39 = .ok (.putfield 26, 3) := by decide +kernel
theorem dX7_init_42 : decode cX7_init 42 = .ok (.aload_n 0, 1) := by decide +kernel
theorem dX7_init_43 : decode cX7_init 43 = .ok (.new 30, 3) := by decide +kernel
theorem dX7_init_46 : decode cX7_init 46 = .ok (.dup, 1) := by decide +kernel
theorem dX7_init_47 : decode cX7_init 47 = .ok (.invokespecial 32, 3) := by decide +kernel
theorem dX7_init_50 : decode cX7_init 50 = .ok (.putfield 33, 3) := by decide +kernel
theorem dX7_init_53 : decode cX7_init 53 = .ok (.aload_n 0, 1) := by decide +kernel
theorem dX7_init_54 : decode cX7_init 54 = .ok (.new 37, 3) := by decide +kernel
theorem dX7_init_57 : decode cX7_init 57 = .ok (.dup, 1) := by decide +kernel
theorem dX7_init_58 : decode cX7_init 58 = .ok (.invokespecial 39, 3) := by decide +kernel
theorem dX7_init_61 : decode cX7_init 61 = .ok (.putfield 40, 3) := by decide +kernel
theorem dX7_init_64 : decode cX7_init 64 = .ok (.aload_n 0, 1) := by decide +kernel
theorem dX7_init_65 : decode cX7_init 65 = .ok (.iconst 4, 1) := by decide +kernel
theorem dX7_init_66 : decode cX7_init 66 = .ok (.anewarray 44, 3) := by decide +kernel
theorem dX7_init_69 : decode cX7_init 69 = .ok (.putfield 46, 3) := by decide +kernel
theorem dX7_init_72 : decode cX7_init 72 = .ok (.aload_n 0, 1) := by decide +kernel
theorem dX7_init_73 : decode cX7_init 73 = .ok (.bipush 7, 2) := by decide +kernel
theorem dX7_init_75 : decode cX7_init 75 = .ok (.newarray .int, 2) := by decide +kernel
theorem dX7_init_77 : decode cX7_init 77 = .ok (.putfield 50, 3) := by decide +kernel
theorem dX7_init_80 : decode cX7_init 80 = .ok (.iconst 0, 1) := by decide +kernel
theorem dX7_init_81 : decode cX7_init 81 = .ok (.istore_n 1, 1) := by decide +kernel
theorem dX7_init_82 : decode cX7_init 82 = .ok (.iload_n 1, 1) := by decide +kernel
theorem dX7_init_83 : decode cX7_init 83 = .ok (.iconst 4, 1) := by decide +kernel
theorem dX7_init_84 : decode cX7_init 84 = .ok (.if_icmp .ge 22, 3) := by decide +kernel
theorem dX7_init_87 : decode cX7_init 87 = .ok (.aload_n 0, 1) := by decide +kernel
theorem dX7_init_88 : decode cX7_init 88 = .ok (.getfield 46, 3) := by decide +kernel
theorem dX7_init_91 : decode cX7_init 91 = .ok (.iload_n 1, 1) := by decide +kernel
theorem dX7_init_92 : decode cX7_init 92 = .ok (.new 44, 3) := by decide +kernel
theorem dX7_init_95 : decode cX7_init 95 = .ok (.dup, 1) := by decide +kernel
theorem dX7_init_96 : decode cX7_init 96 = .ok (.invokespecial 54, 3) := by decide +kernel
theorem dX7_init_99 : decode cX7_init 99 = .ok (.aastore, 1) := by decide +kernel
theorem dX7_init_100 : decode cX7_init 100 = .ok (.iinc 1 1, 3) := by decide +kernel
theorem dX7_init_103 : decode cX7_init 103 = .ok (.goto (-21), 3) := by decide +kernel
theorem dX7_init_106 : decode cX7_init 106 = .ok (.return_, 1) := by decide +kernel
theorem dX7_street_0 : decode cX7_street 0 = .ok (.iload_n 1, 1) := by decide +kernel
theorem dX7_street_1 : decode cX7_street 1 = .ok (.invokestatic 55, 3) := by decide +kernel
theorem dX7_street_4 : decode cX7_street 4 = .ok (.ifCond .eq 33, 3) := by decide +kernel
theorem dX7_street_7 : decode cX7_street 7 = .ok (.iload_n 2, 1) := by decide +kernel
theorem dX7_street_8 : decode cX7_street 8 = .ok (.invokestatic 59, 3) := by decide +kernel
theorem dX7_street_11 : decode cX7_street 11 = .ok (.ifCond .eq 26, 3) := by decide +kernel
theorem dX7_street_14 : decode cX7_street 14 = .ok (.iload_n 3, 1) := by decide +kernel
theorem dX7_street_15 : decode cX7_street 15 = .ok (.invokestatic 59, 3) := by decide +kernel
theorem dX7_street_18 : decode cX7_street 18 = .ok (.ifCond .eq 19, 3) := by decide +kernel
theorem dX7_street_21 : decode cX7_street 21 = .ok (.iload_n 2, 1) := by decide +kernel
theorem dX7_street_22 : decode cX7_street 22 = .ok (.iload_n 3, 1) := by decide +kernel
theorem dX7_street_23 : decode cX7_street 23 = .ok (.if_icmp .eq 14, 3) := by decide +kernel
theorem dX7_street_26 : decode cX7_street 26 = .ok (.iload 4, 2) := by decide +kernel
theorem dX7_street_28 : decode cX7_street 28 = .ok (.iconst 1, 1) := by decide +kernel
theorem dX7_street_29 : decode cX7_street 29 = .ok (.bipush 20, 2) := by decide +kernel
theorem dX7_street_31 : decode cX7_street 31 = .ok (.invokestatic 62, 3) := by decide +kernel
theorem dX7_street_34 : decode cX7_street 34 = .ok (.ifCond .ne 9, 3) := by decide +kernel
theorem dX7_street_37 : decode cX7_street 37 = .ok (.aload_n 0, 1) := by decide +kernel
theorem dX7_street_38 : decode cX7_street 38 = .ok (.iconst 0, 1) := by decide +kernel
theorem dX7_street_39 : decode cX7_street 39 = .ok (.invokevirtual 66, 3) := by decide +kernel
theorem dX7_street_42 : decode cX7_street 42 = .ok (.ireturn, 1) := by decide +kernel
theorem dX7_street_43 : decode cX7_street 43 = .ok (.aload_n 0, 1) := by decide +kernel
theorem dX7_street_44 : decode cX7_street 44 = .ok (.getfield 10, 3) := by decide +kernel
theorem dX7_street_47 : decode cX7_street 47 = .ok (.getfield 70, 3) := by decide +kernel
theorem dX7_street_50 : decode cX7_street 50 = .ok (.invokevirtual 73, 3) := by decide +kernel
theorem dX7_street_53 : decode cX7_street 53 = .ok (.ifCond .eq 9, 3) := by decide +kernel
theorem dX7_street_56 : decode cX7_street 56 = .ok (.aload_n 0, 1) := by decide +kernel
theorem dX7_street_57 : decode cX7_street 57 = .ok (.iconst 1, 1) := by decide +kernel
theorem dX7_street_58 : decode cX7_street 58 = .ok (.invokevirtual 66, 3) := by decide +kernel
theorem dX7_street_61 : decode cX7_street 61 = .ok (.ireturn, 1) := by decide +kernel
theorem dX7_street_62 : decode cX7_street 62 = .ok (.aload_n 0, 1) := by decide +kernel
theorem dX7_street_63 : decode cX7_street 63 = .ok (.getfield 10, 3) := by decide +kernel
theorem dX7_street_66 : decode cX7_street 66 = .ok (.getfield 70, 3) := by decide +kernel
theorem dX7_street_69 : decode cX7_street 69 = .ok (.iload_n 1, 1) := by decide +kernel
theorem dX7_street_70 : decode cX7_street 70 = .ok (.iload_n 2, 1) := by decide +kernel
theorem dX7_street_71 : decode cX7_street 71 = .ok (.iload_n 3, 1) := by decide +kernel
theorem dX7_street_72 : decode cX7_street 72 = .ok (.iload 4, 2) := by decide +kernel
theorem dX7_street_74 : decode cX7_street 74 = .ok (.iconst 0, 1) := by decide +kernel
theorem dX7_street_75 : decode cX7_street 75 = .ok (.invokevirtual 77, 3) := by decide +kernel
theorem dX7_street_78 : decode cX7_street 78 = .ok (.ireturn, 1) := by decide +kernel
theorem dX7_of_0 : decode cX7_of 0 = .ok (.aload_n 0, 1) := by decide +kernel
theorem dX7_of_1 : decode cX7_of 1 = .ok (.getfield 10, 3) := by decide +kernel
theorem dX7_of_4 : decode cX7_of 4 = .ok (.getfield 70, 3) := by decide +kernel
theorem dX7_of_7 : decode cX7_of 7 = .ok (.iload_n 1, 1) := by decide +kernel
theorem dX7_of_8 : decode cX7_of 8 = .ok (.invokevirtual 81, 3) := by decide +kernel
theorem dX7_of_11 : decode cX7_of 11 = .ok (.ifCond .ne 9, 3) := by decide +kernel
theorem dX7_of_14 : decode cX7_of 14 = .ok (.aload_n 0, 1) := by decide +kernel
theorem dX7_of_15 : decode cX7_of 15 = .ok (.iconst 0, 1) := by decide +kernel
theorem dX7_of_16 : decode cX7_of 16 = .ok (.invokevirtual 66, 3) := by decide +kernel
theorem dX7_of_19 : decode cX7_of 19 = .ok (.ireturn, 1) := by decide +kernel
theorem dX7_of_20 : decode cX7_of 20 = .ok (.aload_n 0, 1) := by decide +kernel
theorem dX7_of_21 : decode cX7_of 21 = .ok (.getfield 10, 3) := by decide +kernel
theorem dX7_of_24 : decode cX7_of 24 = .ok (.getfield 70, 3) := by decide +kernel
theorem dX7_of_27 : decode cX7_of 27 = .ok (.getfield 84, 3) := by decide +kernel
theorem dX7_of_30 : decode cX7_of 30 = .ok (.iload_n 1, 1) := by decide +kernel
theorem dX7_of_31 : decode cX7_of 31 = .ok (.aaload, 1) := by decide +kernel
theorem dX7_of_32 : decode cX7_of 32 = .ok (.astore_n 3, 1) := by decide +kernel
theorem dX7_of_33 : decode cX7_of 33 = .ok (.iload_n 2, 1) := by decide +kernel
theorem dX7_of_34 : decode cX7_of 34 = .ok (.tableswitch 94 0 6 #[42, 47, 59, 71, 76, 81, 86], 42) := by decide +kernel
theorem dX7_of_76 : decode cX7_of 76 = .ok (.aload_n 3, 1) := by decide +kernel
theorem dX7_of_77 : decode cX7_of 77 = .ok (.getfield 88, 3) := by decide +kernel
theorem dX7_of_80 : decode cX7_of 80 = .ok (.ireturn, 1) := by decide +kernel
theorem dX7_of_81 : decode cX7_of 81 = .ok (.aload_n 3, 1) := by decide +kernel
theorem dX7_of_82 : decode cX7_of 82 = .ok (.getfield 94, 3) := by decide +kernel
theorem dX7_of_85 : decode cX7_of 85 = .ok (.aload_n 3, 1) := by decide +kernel
theorem dX7_of_86 : decode cX7_of 86 = .ok (.getfield 97, 3) := by decide +kernel
theorem dX7_of_89 : decode cX7_of 89 = .ok (.invokestatic 100, 3) := by decide +kernel
theorem dX7_of_92 : decode cX7_of 92 = .ok (.ireturn, 1) := by decide +kernel
theorem dX7_of_93 : decode cX7_of 93 = .ok (.aload_n 3, 1) := by decide +kernel
theorem dX7_of_94 : decode cX7_of 94 = .ok (.getfield 94, 3) := by decide +kernel
theorem dX7_of_97 : decode cX7_of 97 = .ok (.aload_n 3, 1) := by decide +kernel
theorem dX7_of_98 : decode cX7_of 98 = .ok (.getfield 97, 3) := by decide +kernel
theorem dX7_of_101 : decode cX7_of 101 = .ok (.invokestatic 106, 3) := by decide +kernel
theorem dX7_of_104 : decode cX7_of 104 = .ok (.ireturn, 1) := by decide +kernel
theorem dX7_of_105 : decode cX7_of 105 = .ok (.aload_n 3, 1) := by decide +kernel
theorem dX7_of_106 : decode cX7_of 106 = .ok (.getfield 109, 3) := by decide +kernel
theorem dX7_of_109 : decode cX7_of 109 = .ok (.ireturn, 1) := by decide +kernel
theorem dX7_of_110 : decode cX7_of 110 = .ok (.aload_n 3, 1) := by decide +kernel
theorem dX7_of_111 : decode cX7_of 111 = .ok (.getfield 112, 3) := by decide +kernel
theorem dX7_of_114 : decode cX7_of 114 = .ok (.ireturn, 1) := by decide +kernel
theorem dX7_of_115 : decode cX7_of 115 = .ok (.aload_n 3, 1) := by decide +kernel
theorem dX7_of_116 : decode cX7_of 116 = .ok (.invokevirtual 115, 3) := by decide +kernel
theorem dX7_of_119 : decode cX7_of 119 = .ok (.ireturn, 1) := by decide +kernel
theorem dX7_of_120 : decode cX7_of 120 = .ok (.aload_n 3, 1) := by decide +kernel
theorem dX7_of_121 : decode cX7_of 121 = .ok (.getfield 88, 3) := by decide +kernel
theorem dX7_of_124 : decode cX7_of 124 = .ok (.invokestatic 119, 3) := by decide +kernel
theorem dX7_of_127 : decode cX7_of 127 = .ok (.ireturn, 1) := by decide +kernel
theorem dX7_of_128 : decode cX7_of 128 = .ok (.aload_n 0, 1) := by decide +kernel
theorem dX7_of_129 : decode cX7_of 129 = .ok (.iconst 0, 1) := by decide +kernel
theorem dX7_of_130 : decode cX7_of 130 = .ok (.invokevirtual 66, 3) := by decide +kernel
theorem dX7_of_133 : decode cX7_of 133 = .ok (.ireturn, 1) := by decide +kernel
theorem dX7_change_0 : decode cX7_change 0 = .ok (.aload_n 0, 1) := by decide +kernel
theorem dX7_change_1 : decode cX7_change 1 = .ok (.getfield 10, 3) := by decide +kernel
theorem dX7_change_4 : decode cX7_change 4 = .ok (.getfield 70, 3) := by decide +kernel
theorem dX7_change_7 : decode cX7_change 7 = .ok (.iload_n 1, 1) := by decide +kernel
theorem dX7_change_8 : decode cX7_change 8 = .ok (.invokevirtual 81, 3) := by decide +kernel
theorem dX7_change_11 : decode cX7_change 11 = .ok (.ifCond .ne 9, 3) := by decide +kernel
theorem dX7_change_14 : decode cX7_change 14 = .ok (.aload_n 0, 1) := by decide +kernel
theorem dX7_change_15 : decode cX7_change 15 = .ok (.iconst 0, 1) := by decide +kernel
theorem dX7_change_16 : decode cX7_change 16 = .ok (.invokevirtual 66, 3) := by decide +kernel
theorem dX7_change_19 : decode cX7_change 19 = .ok (.ireturn, 1) := by decide +kernel
theorem dX7_change_20 : decode cX7_change 20 = .ok (.aload_n 0, 1) := by decide +kernel
theorem dX7_change_21 : decode cX7_change 21 = .ok (.getfield 10, 3) := by decide +kernel
theorem dX7_change_24 : decode cX7_change 24 = .ok (.getfield 70, 3) := by decide +kernel
theorem dX7_change_27 : decode cX7_change 27 = .ok (.getfield 84, 3) := by decide +kernel
theorem dX7_change_30 : decode cX7_change 30 = .ok (.iload_n 1, 1) := by decide +kernel
theorem dX7_change_31 : decode cX7_change 31 = .ok (.aaload, 1) := by decide +kernel
theorem dX7_change_32 : decode cX7_change 32 = .ok (.astore 4, 2) := by decide +kernel
theorem dX7_change_34 : decode cX7_change 34 = .ok (.iload_n 2, 1) := by decide +kernel
theorem dX7_change_35 : decode cX7_change 35 = .ok (.ifCond .ne 26, 3) := by decide +kernel
theorem dX7_change_38 : decode cX7_change 38 = .ok (.iload_n 3, 1) := by decide +kernel
theorem dX7_change_39 : decode cX7_change 39 = .ok (.invokestatic 55, 3) := by decide +kernel
theorem dX7_change_42 : decode cX7_change 42 = .ok (.ifCond .eq 19, 3) := by decide +kernel
theorem dX7_change_45 : decode cX7_change 45 = .ok (.aload 4, 2) := by decide +kernel
theorem dX7_change_47 : decode cX7_change 47 = .ok (.getfield 88, 3) := by decide +kernel
theorem dX7_change_50 : decode cX7_change 50 = .ok (.istore 5, 2) := by decide +kernel
theorem dX7_change_52 : decode cX7_change 52 = .ok (.aload 4, 2) := by decide +kernel
theorem dX7_change_54 : decode cX7_change 54 = .ok (.iload_n 3, 1) := by decide +kernel
theorem dX7_change_55 : decode cX7_change 55 = .ok (.putfield 88, 3) := by decide +kernel
theorem dX7_change_58 : decode cX7_change 58 = .ok (.goto 71, 3) := by decide +kernel
theorem dX7_change_61 : decode cX7_change 61 = .ok (.iload_n 2, 1) := by decide +kernel
theorem dX7_change_62 : decode cX7_change 62 = .ok (.iconst 3, 1) := by decide +kernel
theorem dX7_change_63 : decode cX7_change 63 = .ok (.if_icmp .ne 29, 3) := by decide +kernel
theorem dX7_change_66 : decode cX7_change 66 = .ok (.iload_n 3, 1) := by decide +kernel
theorem dX7_change_67 : decode cX7_change 67 = .ok (.iconst 1, 1) := by decide +kernel
theorem dX7_change_68 : decode cX7_change 68 = .ok (.bipush 20, 2) := by decide +kernel
theorem dX7_change_70 : decode cX7_change 70 = .ok (.invokestatic 62, 3) := by decide +kernel
theorem dX7_change_73 : decode cX7_change 73 = .ok (.ifCond .eq 19, 3) := by decide +kernel
theorem dX7_change_76 : decode cX7_change 76 = .ok (.aload 4, 2) := by decide +kernel
theorem dX7_change_78 : decode cX7_change 78 = .ok (.getfield 109, 3) := by decide +kernel
theorem dX7_change_81 : decode cX7_change 81 = .ok (.istore 5, 2) := by decide +kernel
theorem dX7_change_83 : decode cX7_change 83 = .ok (.aload 4, 2) := by decide +kernel
theorem dX7_change_85 : decode cX7_change 85 = .ok (.iload_n 3, 1) := by decide +kernel
theorem dX7_change_86 : decode cX7_change 86 = .ok (.putfield 109, 3) := by decide +kernel
theorem dX7_change_89 : decode cX7_change 89 = .ok (.goto 40, 3) := by decide +kernel
theorem dX7_change_92 : decode cX7_change 92 = .ok (.iload_n 2, 1) := by decide +kernel
theorem dX7_change_93 : decode cX7_change 93 = .ok (.iconst 4, 1) := by decide +kernel
theorem dX7_change_94 : decode cX7_change 94 = .ok (.if_icmp .ne 28, 3) := by decide +kernel
theorem dX7_change_97 : decode cX7_change 97 = .ok (.iload_n 3, 1) := by decide +kernel
theorem dX7_change_98 : decode cX7_change 98 = .ok (.iconst 0, 1) := by decide +kernel
theorem dX7_change_99 : decode cX7_change 99 = .ok (.iconst 1, 1) := by decide +kernel
theorem dX7_change_100 : decode cX7_change 100 = .ok (.invokestatic 62, 3) := by decide +kernel
theorem dX7_change_103 : decode cX7_change 103 = .ok (.ifCond .eq 19, 3) := by decide +kernel
theorem dX7_change_106 : decode cX7_change 106 = .ok (.aload 4, 2) := by decide +kernel
theorem dX7_change_108 : decode cX7_change 108 = .ok (.getfield 112, 3) := by decide +kernel
theorem dX7_change_111 : decode cX7_change 111 = .ok (.istore 5, 2) := by decide +kernel
theorem dX7_change_113 : decode cX7_change 113 = .ok (.aload 4, 2) := by decide +kernel
theorem dX7_change_115 : decode cX7_change 115 = .ok (.iload_n 3, 1) := by decide +kernel
theorem dX7_change_116 : decode cX7_change 116 = .ok (.putfield 112, 3) := by decide +kernel
theorem dX7_change_119 : decode cX7_change 119 = .ok (.goto 10, 3) := by decide +kernel
theorem dX7_change_122 : decode cX7_change 122 = .ok (.aload_n 0, 1) := by decide +kernel
theorem dX7_change_123 : decode cX7_change 123 = .ok (.iconst 0, 1) := by decide +kernel
theorem dX7_change_124 : decode cX7_change 124 = .ok (.invokevirtual 66, 3) := by decide +kernel
theorem dX7_change_127 : decode cX7_change 127 = .ok (.istore 5, 2) := by decide +kernel
theorem dX7_change_129 : decode cX7_change 129 = .ok (.iload 5, 2) := by decide +kernel
theorem dX7_change_131 : decode cX7_change 131 = .ok (.ireturn, 1) := by decide +kernel
theorem dX7_quarter_0 : decode cX7_quarter 0 = .ok (.iload_n 1, 1) := by decide +kernel
theorem dX7_quarter_1 : decode cX7_quarter 1 = .ok (.invokestatic 59, 3) := by decide +kernel
theorem dX7_quarter_4 : decode cX7_quarter 4 = .ok (.ifCond .eq 12, 3) := by decide +kernel
theorem dX7_quarter_7 : decode cX7_quarter 7 = .ok (.iload_n 2, 1) := by decide +kernel
theorem dX7_quarter_8 : decode cX7_quarter 8 = .ok (.iconst 0, 1) := by decide +kernel
theorem dX7_quarter_9 : decode cX7_quarter 9 = .ok (.iconst 3, 1) := by decide +kernel
theorem dX7_quarter_10 : decode cX7_quarter 10 = .ok (.invokestatic 62, 3) := by decide +kernel
theorem dX7_quarter_13 : decode cX7_quarter 13 = .ok (.ifCond .ne 9, 3) := by decide +kernel
theorem dX7_quarter_16 : decode cX7_quarter 16 = .ok (.aload_n 0, 1) := by decide +kernel
theorem dX7_quarter_17 : decode cX7_quarter 17 = .ok (.iconst 0, 1) := by decide +kernel
theorem dX7_quarter_18 : decode cX7_quarter 18 = .ok (.invokevirtual 66, 3) := by decide +kernel
theorem dX7_quarter_21 : decode cX7_quarter 21 = .ok (.ireturn, 1) := by decide +kernel
theorem dX7_quarter_22 : decode cX7_quarter 22 = .ok (.aload_n 0, 1) := by decide +kernel
theorem dX7_quarter_23 : decode cX7_quarter 23 = .ok (.getfield 10, 3) := by decide +kernel
theorem dX7_quarter_26 : decode cX7_quarter 26 = .ok (.getfield 70, 3) := by decide +kernel
theorem dX7_quarter_29 : decode cX7_quarter 29 = .ok (.getfield 122, 3) := by decide +kernel
theorem dX7_quarter_32 : decode cX7_quarter 32 = .ok (.iload_n 1, 1) := by decide +kernel
theorem dX7_quarter_33 : decode cX7_quarter 33 = .ok (.iload_n 2, 1) := by decide +kernel
theorem dX7_quarter_34 : decode cX7_quarter 34 = .ok (.invokestatic 125, 3) := by decide +kernel
theorem dX7_quarter_37 : decode cX7_quarter 37 = .ok (.ireturn, 1) := by decide +kernel
theorem dX7_spell_0 : decode cX7_spell 0 = .ok (.iload_n 1, 1) := by decide +kernel
theorem dX7_spell_1 : decode cX7_spell 1 = .ok (.iconst 0, 1) := by decide +kernel
theorem dX7_spell_2 : decode cX7_spell 2 = .ok (.bipush 11, 2) := by decide +kernel
theorem dX7_spell_4 : decode cX7_spell 4 = .ok (.invokestatic 62, 3) := by decide +kernel
theorem dX7_spell_7 : decode cX7_spell 7 = .ok (.ifCond .eq 22, 3) := by decide +kernel
