theorem dX8_isLetter_13 : decode cX8_isLetter 13 = .ok (.goto 4, 3) := by decide +kernel
theorem dX8_isLetter_16 : decode cX8_isLetter 16 = .ok (.iconst 0, 1) := by decide +kernel
theorem dX8_isLetter_17 : decode cX8_isLetter 17 = .ok (.ireturn, 1) := by decide +kernel
theorem dX8_isDigit_0 : decode cX8_isDigit 0 = .ok (.iload_n 0, 1) := by decide +kernel
theorem dX8_isDigit_1 : decode cX8_isDigit 1 = .ok (.bipush 48, 2) := by decide +kernel
theorem dX8_isDigit_3 : decode cX8_isDigit 3 = .ok (.if_icmp .lt 13, 3) := by decide +kernel
theorem dX8_isDigit_6 : decode cX8_isDigit 6 = .ok (.iload_n 0, 1) := by decide +kernel
theorem dX8_isDigit_7 : decode cX8_isDigit 7 = .ok (.bipush 57, 2) := by decide +kernel
theorem dX8_isDigit_9 : decode cX8_isDigit 9 = .ok (.if_icmp .gt 7, 3) := by decide +kernel
theorem dX8_isDigit_12 : decode cX8_isDigit 12 = .ok (.iconst 1, 1) := by decide +kernel
theorem dX8_isDigit_13 : decode cX8_isDigit 13 = .ok (.goto 4, 3) := by decide +kernel
theorem dX8_isDigit_16 : decode cX8_isDigit 16 = .ok (.iconst 0, 1) := by decide +kernel
theorem dX8_isDigit_17 : decode cX8_isDigit 17 = .ok (.ireturn, 1) := by decide +kernel
theorem dX8_fails_0 : decode cX8_fails 0 = .ok (.aload_n 0, 1) := by decide +kernel
theorem dX8_fails_1 : decode cX8_fails 1 = .ok (.getfield 11, 3) := by decide +kernel
theorem dX8_fails_4 : decode cX8_fails 4 = .ok (.ifCond .le 4, 3) := by decide +kernel
theorem dX8_fails_7 : decode cX8_fails 7 = .ok (.return_, 1) := by decide +kernel
theorem dX8_fails_8 : decode cX8_fails 8 = .ok (.aload_n 0, 1) := by decide +kernel
theorem dX8_fails_9 : decode cX8_fails 9 = .ok (.iload_n 1, 1) := by decide +kernel
theorem dX8_fails_10 : decode cX8_fails 10 = .ok (.putfield 11, 3) := by decide +kernel
theorem dX8_fails_13 : decode cX8_fails 13 = .ok (.aload_n 0, 1) := by decide +kernel
theorem dX8_fails_14 : decode cX8_fails 14 = .ok (.iload_n 2, 1) := by decide +kernel
theorem dX8_fails_15 : decode cX8_fails 15 = .ok (.putfield 14, 3) := by decide +kernel
theorem dX8_fails_18 : decode cX8_fails 18 = .ok (.return_, 1) := by decide +kernel
theorem dX8_isGood_0 : decode cX8_isGood 0 = .ok (.aload_n 0, 1) := by decide +kernel
theorem dX8_isGood_1 : decode cX8_isGood 1 = .ok (.getfield 11, 3) := by decide +kernel
theorem dX8_isGood_4 : decode cX8_isGood 4 = .ok (.ifCond .ne 7, 3) := by decide +kernel
theorem dX8_isGood_7 : decode cX8_isGood 7 = .ok (.iconst 1, 1) := by decide +kernel
theorem dX8_isGood_8 : decode cX8_isGood 8 = .ok (.goto 4, 3) := by decide +kernel
theorem dX8_isGood_11 : decode cX8_isGood 11 = .ok (.iconst 0, 1) := by decide +kernel
theorem dX8_isGood_12 : decode cX8_isGood 12 = .ok (.ireturn, 1) := by decide +kernel
theorem dX8_next_0 : decode cX8_next 0 = .ok (.aload_n 0, 1) := by decide +kernel
theorem dX8_next_1 : decode cX8_next 1 = .ok (.aload_n 0, 1) := by decide +kernel
theorem dX8_next_2 : decode cX8_next 2 = .ok (.getfield 17, 3) := by decide +kernel
theorem dX8_next_5 : decode cX8_next 5 = .ok (.putfield 20, 3) := by decide +kernel
theorem dX8_next_8 : decode cX8_next 8 = .ok (.aload_n 0, 1) := by decide +kernel
theorem dX8_next_9 : decode cX8_next 9 = .ok (.getfield 20, 3) := by decide +kernel
theorem dX8_next_12 : decode cX8_next 12 = .ok (.aload_n 0, 1) := by decide +kernel
theorem dX8_next_13 : decode cX8_next 13 = .ok (.getfield 1, 3) := by decide +kernel
theorem dX8_next_16 : decode cX8_next 16 = .ok (.if_icmp .ge 42, 3) := by decide +kernel
theorem dX8_next_19 : decode cX8_next 19 = .ok (.aload_n 0, 1) := by decide +kernel
theorem dX8_next_20 : decode cX8_next 20 = .ok (.aload_n 0, 1) := by decide +kernel
theorem dX8_next_21 : decode cX8_next 21 = .ok (.getfield 20, 3) := by decide +kernel
theorem dX8_next_24 : decode cX8_next 24 = .ok (.invokevirtual 23, 3) := by decide +kernel
theorem dX8_next_27 : decode cX8_next 27 = .ok (.bipush 32, 2) := by decide +kernel
theorem dX8_next_29 : decode cX8_next 29 = .ok (.if_icmp .eq 16, 3) := by decide +kernel
theorem dX8_next_32 : decode cX8_next 32 = .ok (.aload_n 0, 1) := by decide +kernel
theorem dX8_next_33 : decode cX8_next 33 = .ok (.aload_n 0, 1) := by decide +kernel
theorem dX8_next_34 : decode cX8_next 34 = .ok (.getfield 20, 3) := by decide +kernel
theorem dX8_next_37 : decode cX8_next 37 = .ok (.invokevirtual 23, 3) := by decide +kernel
theorem dX8_next_40 : decode cX8_next 40 = .ok (.bipush 10, 2) := by decide +kernel
theorem dX8_next_42 : decode cX8_next 42 = .ok (.if_icmp .ne 16, 3) := by decide +kernel
theorem dX8_next_45 : decode cX8_next 45 = .ok (.aload_n 0, 1) := by decide +kernel
theorem dX8_next_46 : decode cX8_next 46 = .ok (.dup, 1) := by decide +kernel
theorem dX8_next_47 : decode cX8_next 47 = .ok (.getfield 20, 3) := by decide +kernel
theorem dX8_next_50 : decode cX8_next 50 = .ok (.iconst 1, 1) := by decide +kernel
theorem dX8_next_51 : decode cX8_next 51 = .ok (.iadd, 1) := by decide +kernel
theorem dX8_next_52 : decode cX8_next 52 = .ok (.putfield 20, 3) := by decide +kernel
theorem dX8_next_55 : decode cX8_next 55 = .ok (.goto (-47), 3) := by decide +kernel
theorem dX8_next_58 : decode cX8_next 58 = .ok (.aload_n 0, 1) := by decide +kernel
theorem dX8_next_59 : decode cX8_next 59 = .ok (.aload_n 0, 1) := by decide +kernel
theorem dX8_next_60 : decode cX8_next 60 = .ok (.getfield 20, 3) := by decide +kernel
theorem dX8_next_63 : decode cX8_next 63 = .ok (.invokevirtual 23, 3) := by decide +kernel
theorem dX8_next_66 : decode cX8_next 66 = .ok (.istore_n 1, 1) := by decide +kernel
theorem dX8_next_67 : decode cX8_next 67 = .ok (.aload_n 0, 1) := by decide +kernel
theorem dX8_next_68 : decode cX8_next 68 = .ok (.aload_n 0, 1) := by decide +kernel
theorem dX8_next_69 : decode cX8_next 69 = .ok (.getfield 20, 3) := by decide +kernel
theorem dX8_next_72 : decode cX8_next 72 = .ok (.iconst 1, 1) := by decide +kernel
theorem dX8_next_73 : decode cX8_next 73 = .ok (.iadd, 1) := by decide +kernel
theorem dX8_next_74 : decode cX8_next 74 = .ok (.putfield 17, 3) := by decide +kernel
theorem dX8_next_77 : decode cX8_next 77 = .ok (.aload_n 0, 1) := by decide +kernel
theorem dX8_next_78 : decode cX8_next 78 = .ok (.getfield 20, 3) := by decide +kernel
theorem dX8_next_81 : decode cX8_next 81 = .ok (.aload_n 0, 1) := by decide +kernel
theorem dX8_next_82 : decode cX8_next 82 = .ok (.getfield 1, 3) := by decide +kernel
theorem dX8_next_85 : decode cX8_next 85 = .ok (.if_icmp .lt 27, 3) := by decide +kernel
theorem dX8_next_88 : decode cX8_next 88 = .ok (.aload_n 0, 1) := by decide +kernel
theorem dX8_next_89 : decode cX8_next 89 = .ok (.iconst 0, 1) := by decide +kernel
theorem dX8_next_90 : decode cX8_next 90 = .ok (.putfield 27, 3) := by decide +kernel
theorem dX8_next_93 : decode cX8_next 93 = .ok (.aload_n 0, 1) := by decide +kernel
theorem dX8_next_94 : decode cX8_next 94 = .ok (.aload_n 0, 1) := by decide +kernel
theorem dX8_next_95 : decode cX8_next 95 = .ok (.getfield 1, 3) := by decide +kernel
theorem dX8_next_98 : decode cX8_next 98 = .ok (.putfield 20, 3) := by decide +kernel
theorem dX8_next_101 : decode cX8_next 101 = .ok (.aload_n 0, 1) := by decide +kernel
theorem dX8_next_102 : decode cX8_next 102 = .ok (.aload_n 0, 1) := by decide +kernel
theorem dX8_next_103 : decode cX8_next 103 = .ok (.getfield 1, 3) := by decide +kernel
theorem dX8_next_106 : decode cX8_next 106 = .ok (.putfield 17, 3) := by decide +kernel
theorem dX8_next_109 : decode cX8_next 109 = .ok (.goto 178, 3) := by decide +kernel
theorem dX8_next_112 : decode cX8_next 112 = .ok (.iload_n 1, 1) := by decide +kernel
theorem dX8_next_113 : decode cX8_next 113 = .ok (.invokestatic 30, 3) := by decide +kernel
theorem dX8_next_116 : decode cX8_next 116 = .ok (.ifCond .eq 109, 3) := by decide +kernel
theorem dX8_next_119 : decode cX8_next 119 = .ok (.aload_n 0, 1) := by decide +kernel
theorem dX8_next_120 : decode cX8_next 120 = .ok (.aload_n 0, 1) := by decide +kernel
theorem dX8_next_121 : decode cX8_next 121 = .ok (.getfield 17, 3) := by decide +kernel
theorem dX8_next_124 : decode cX8_next 124 = .ok (.invokevirtual 23, 3) := by decide +kernel
theorem dX8_next_127 : decode cX8_next 127 = .ok (.invokestatic 30, 3) := by decide +kernel
theorem dX8_next_130 : decode cX8_next 130 = .ok (.ifCond .eq 16, 3) := by decide +kernel
theorem dX8_next_133 : decode cX8_next 133 = .ok (.aload_n 0, 1) := by decide +kernel
theorem dX8_next_134 : decode cX8_next 134 = .ok (.dup, 1) := by decide +kernel
theorem dX8_next_135 : decode cX8_next 135 = .ok (.getfield 17, 3) := by decide +kernel
theorem dX8_next_138 : decode cX8_next 138 = .ok (.iconst 1, 1) := by decide +kernel
theorem dX8_next_139 : decode cX8_next 139 = .ok (.iadd, 1) := by decide +kernel
theorem dX8_next_140 : decode cX8_next 140 = .ok (.putfield 17, 3) := by decide +kernel
theorem dX8_next_143 : decode cX8_next 143 = .ok (.goto (-24), 3) := by decide +kernel
theorem dX8_next_146 : decode cX8_next 146 = .ok (.aload_n 0, 1) := by decide +kernel
theorem dX8_next_147 : decode cX8_next 147 = .ok (.lconst 0, 1) := by decide +kernel
theorem dX8_next_148 : decode cX8_next 148 = .ok (.putfield 34, 3) := by decide +kernel
theorem dX8_next_151 : decode cX8_next 151 = .ok (.aload_n 0, 1) := by decide +kernel
theorem dX8_next_152 : decode cX8_next 152 = .ok (.getfield 20, 3) := by decide +kernel
theorem dX8_next_155 : decode cX8_next 155 = .ok (.istore_n 2, 1) := by decide +kernel
theorem dX8_next_156 : decode cX8_next 156 = .ok (.iload_n 2, 1) := by decide +kernel
theorem dX8_next_157 : decode cX8_next 157 = .ok (.aload_n 0, 1) := by decide +kernel
theorem dX8_next_158 : decode cX8_next 158 = .ok (.getfield 17, 3) := by decide +kernel
theorem dX8_next_161 : decode cX8_next 161 = .ok (.if_icmp .ge 38, 3) := by decide +kernel
theorem dX8_next_164 : decode cX8_next 164 = .ok (.iload_n 2, 1) := by decide +kernel
theorem dX8_next_165 : decode cX8_next 165 = .ok (.aload_n 0, 1) := by decide +kernel
theorem dX8_next_166 : decode cX8_next 166 = .ok (.getfield 20, 3) := by decide +kernel
theorem dX8_next_169 : decode cX8_next 169 = .ok (.bipush 8, 2) := by decide +kernel
theorem dX8_next_171 : decode cX8_next 171 = .ok (.iadd, 1) := by decide +kernel
theorem dX8_next_172 : decode cX8_next 172 = .ok (.if_icmp .ge 27, 3) := by decide +kernel
theorem dX8_next_175 : decode cX8_next 175 = .ok (.aload_n 0, 1) := by decide +kernel
theorem dX8_next_176 : decode cX8_next 176 = .ok (.aload_n 0, 1) := by decide +kernel
theorem dX8_next_177 : decode cX8_next 177 = .ok (.getfield 34, 3) := by decide +kernel
theorem dX8_next_180 : decode cX8_next 180 = .ok (.bipush 8, 2) := by decide +kernel
theorem dX8_next_182 : decode cX8_next 182 = .ok (.lshl, 1) := by decide +kernel
theorem dX8_next_183 : decode cX8_next 183 = .ok (.aload_n 0, 1) := by decide +kernel
theorem dX8_next_184 : decode cX8_next 184 = .ok (.iload_n 2, 1) := by decide +kernel
theorem dX8_next_185 : decode cX8_next 185 = .ok (.invokevirtual 23, 3) := by decide +kernel
theorem dX8_next_188 : decode cX8_next 188 = .ok (.i2l, 1) := by decide +kernel
theorem dX8_next_189 : decode cX8_next 189 = .ok (.lor, 1) := by decide +kernel
theorem dX8_next_190 : decode cX8_next 190 = .ok (.putfield 34, 3) := by decide +kernel
theorem dX8_next_193 : decode cX8_next 193 = .ok (.iinc 2 1, 3) := by decide +kernel
theorem dX8_next_196 : decode cX8_next 196 = .ok (.goto (-40), 3) := by decide +kernel
theorem dX8_next_199 : decode cX8_next 199 = .ok (.aload_n 0, 1) := by decide +kernel
theorem dX8_next_200 : decode cX8_next 200 = .ok (.aload_n 0, 1) := by decide +kernel
theorem dX8_next_201 : decode cX8_next 201 = .ok (.getfield 17, 3) := by decide +kernel
theorem dX8_next_204 : decode cX8_next 204 = .ok (.aload_n 0, 1) := by decide +kernel
theorem dX8_next_205 : decode cX8_next 205 = .ok (.getfield 20, 3) := by decide +kernel
theorem dX8_next_208 : decode cX8_next 208 = .ok (.isub, 1) := by decide +kernel
theorem dX8_next_209 : decode cX8_next 209 = .ok (.bipush 8, 2) := by decide +kernel
theorem dX8_next_211 : decode cX8_next 211 = .ok (.if_icmp .le 7, 3) := by decide +kernel
theorem dX8_next_214 : decode cX8_next 214 = .ok (.iconst 1, 1) := by decide +kernel
theorem dX8_next_215 : decode cX8_next 215 = .ok (.goto 4, 3) := by decide +kernel
theorem dX8_next_218 : decode cX8_next 218 = .ok (.iconst 2, 1) := by decide +kernel
theorem dX8_next_219 : decode cX8_next 219 = .ok (.putfield 27, 3) := by decide +kernel
theorem dX8_next_222 : decode cX8_next 222 = .ok (.goto 65, 3) := by decide +kernel
theorem dX8_next_225 : decode cX8_next 225 = .ok (.iload_n 1, 1) := by decide +kernel
theorem dX8_next_226 : decode cX8_next 226 = .ok (.invokestatic 38, 3) := by decide +kernel
theorem dX8_next_229 : decode cX8_next 229 = .ok (.ifCond .ne 25, 3) := by decide +kernel
theorem dX8_next_232 : decode cX8_next 232 = .ok (.iload_n 1, 1) := by decide +kernel
theorem dX8_next_233 : decode cX8_next 233 = .ok (.bipush 45, 2) := by decide +kernel
theorem dX8_next_235 : decode cX8_next 235 = .ok (.if_icmp .ne 37, 3) := by decide +kernel
theorem dX8_next_238 : decode cX8_next 238 = .ok (.aload_n 0, 1) := by decide +kernel
theorem dX8_next_239 : decode cX8_next 239 = .ok (.aload_n 0, 1) := by decide +kernel
theorem dX8_next_240 : decode cX8_next 240 = .ok (.getfield 20, 3) := by decide +kernel
theorem dX8_next_243 : decode cX8_next 243 = .ok (.iconst 1, 1) := by decide +kernel
theorem dX8_next_244 : decode cX8_next 244 = .ok (.iadd, 1) := by decide +kernel
theorem dX8_next_245 : decode cX8_next 245 = .ok (.invokevirtual 23, 3) := by decide +kernel
theorem dX8_next_248 : decode cX8_next 248 = .ok (.invokestatic 38, 3) := by decide +kernel
theorem dX8_next_251 : decode cX8_next 251 = .ok (.ifCond .eq 21, 3) := by decide +kernel
theorem dX8_next_254 : decode cX8_next 254 = .ok (.aload_n 0, 1) := by decide +kernel
theorem dX8_next_255 : decode cX8_next 255 = .ok (.iload_n 1, 1) := by decide +kernel
theorem dX8_next_256 : decode cX8_next 256 = .ok (.bipush 45, 2) := by decide +kernel
theorem dX8_next_258 : decode cX8_next 258 = .ok (.if_icmp .ne 7, 3) := by decide +kernel
theorem dX8_next_261 : decode cX8_next 261 = .ok (.iconst 1, 1) := by decide +kernel
theorem dX8_next_262 : decode cX8_next 262 = .ok (.goto 4, 3) := by decide +kernel
theorem dX8_next_265 : decode cX8_next 265 = .ok (.iconst 0, 1) := by decide +kernel
theorem dX8_next_266 : decode cX8_next 266 = .ok (.invokevirtual 41, 3) := by decide +kernel
theorem dX8_next_269 : decode cX8_next 269 = .ok (.goto 18, 3) := by decide +kernel
theorem dX8_next_272 : decode cX8_next 272 = .ok (.aload_n 0, 1) := by decide +kernel
theorem dX8_next_273 : decode cX8_next 273 = .ok (.iload_n 1, 1) := by decide +kernel
theorem dX8_next_274 : decode cX8_next 274 = .ok (.bipush 59, 2) := by decide +kernel
theorem dX8_next_276 : decode cX8_next 276 = .ok (.if_icmp .ne 7, 3) := by decide +kernel
theorem dX8_next_279 : decode cX8_next 279 = .ok (.iconst 4, 1) := by decide +kernel
theorem dX8_next_280 : decode cX8_next 280 = .ok (.goto 4, 3) := by decide +kernel
theorem dX8_next_283 : decode cX8_next 283 = .ok (.iconst 1, 1) := by decide +kernel
theorem dX8_next_284 : decode cX8_next 284 = .ok (.putfield 27, 3) := by decide +kernel
theorem dX8_next_287 : decode cX8_next 287 = .ok (.return_, 1) := by decide +kernel
theorem dX8_readNumber_0 : decode cX8_readNumber 0 = .ok (.iload_n 1, 1) := by decide +kernel
theorem dX8_readNumber_1 : decode cX8_readNumber 1 = .ok (.ifCond .eq 12, 3) := by decide +kernel
theorem dX8_readNumber_4 : decode cX8_readNumber 4 = .ok (.aload_n 0, 1) := by decide +kernel
theorem dX8_readNumber_5 : decode cX8_readNumber 5 = .ok (.getfield 20, 3) := by decide +kernel
theorem dX8_readNumber_8 : decode cX8_readNumber 8 = .ok (.iconst 1, 1) := by decide +kernel
theorem dX8_readNumber_9 : decode cX8_readNumber 9 = .ok (.iadd, 1) := by decide +kernel
theorem dX8_readNumber_10 : decode cX8_readNumber 10 = .ok (.goto 7, 3) := by decide +kernel
theorem dX8_readNumber_13 : decode cX8_readNumber 13 = .ok (.aload_n 0, 1) := by decide +kernel
theorem dX8_readNumber_14 : decode cX8_readNumber 14 = .ok (.getfield 20, 3) := by decide +kernel
theorem dX8_readNumber_17 : decode cX8_readNumber 17 = .ok (.istore_n 2, 1) := by decide +kernel
theorem dX8_readNumber_18 : decode cX8_readNumber 18 = .ok (.aload_n 0, 1) := by decide +kernel
theorem dX8_readNumber_19 : decode cX8_readNumber 19 = .ok (.iconst 0, 1) := by decide +kernel
theorem dX8_readNumber_20 : decode cX8_readNumber 20 = .ok (.putfield 45, 3) := by decide +kernel
theorem dX8_readNumber_23 : decode cX8_readNumber 23 = .ok (.aload_n 0, 1) := by decide +kernel
theorem dX8_readNumber_24 : decode cX8_readNumber 24 = .ok (.iload_n 2, 1) := by decide +kernel
theorem dX8_readNumber_25 : decode cX8_readNumber 25 = .ok (.putfield 17, 3) := by decide +kernel
theorem dX8_readNumber_28 : decode cX8_readNumber 28 = .ok (.aload_n 0, 1) := by decide +kernel
theorem dX8_readNumber_29 : decode cX8_readNumber 29 = .ok (.aload_n 0, 1) := by decide +kernel
theorem dX8_readNumber_30 : decode cX8_readNumber 30 = .ok (.getfield 17, 3) := by decide +kernel
theorem dX8_readNumber_33 : decode cX8_readNumber 33 = .ok (.invokevirtual 23, 3) := by decide +kernel
theorem dX8_readNumber_36 : decode cX8_readNumber 36 = .ok (.invokestatic 38, 3) := by decide +kernel
theorem dX8_readNumber_39 : decode cX8_readNumber 39 = .ok (.ifCond .eq 49, 3) := by decide +kernel
theorem dX8_readNumber_42 : decode cX8_readNumber 42 = .ok (.aload_n 0, 1) := by decide +kernel
theorem dX8_readNumber_43 : decode cX8_readNumber 43 = .ok (.getfield 17, 3) := by decide +kernel
theorem dX8_readNumber_46 : decode cX8_readNumber 46 = .ok (.iload_n 2, 1) := by decide +kernel
theorem dX8_readNumber_47 : decode cX8_readNumber 47 = .ok (.isub, 1) := by decide +kernel
theorem dX8_readNumber_48 : decode cX8_readNumber 48 = .ok (.iconst 5, 1) := by decide +kernel
theorem dX8_readNumber_49 : decode cX8_readNumber 49 = .ok (.if_icmp .ge 26, 3) := by decide +kernel
theorem dX8_readNumber_52 : decode cX8_readNumber 52 = .ok (.aload_n 0, 1) := by decide +kernel
theorem dX8_readNumber_53 : decode cX8_readNumber 53 = .ok (.bipush 10, 2) := by decide +kernel
theorem dX8_readNumber_55 : decode cX8_readNumber 55 = .ok (.aload_n 0, 1) := by decide +kernel
theorem dX8_readNumber_56 : decode cX8_readNumber 56 = .ok (.getfield 45, 3) := by decide +kernel
theorem dX8_readNumber_59 : decode cX8_readNumber 59 = .ok (.imul, 1) := by decide +kernel
theorem dX8_readNumber_60 : decode cX8_readNumber 60 = .ok (.aload_n 0, 1) := by decide +kernel
theorem dX8_readNumber_61 : decode cX8_readNumber 61 = .ok (.aload_n 0, 1) := by decide +kernel
theorem dX8_readNumber_62 : decode cX8_readNumber 62 = .ok (.getfield 17, 3) := by decide +kernel
theorem dX8_readNumber_65 : decode cX8_readNumber 65 = .ok (.invokevirtual 23, 3) := by decide +kernel
theorem dX8_readNumber_68 : decode cX8_readNumber 68 = .ok (.iadd, 1) := by decide +kernel
theorem dX8_readNumber_69 : decode cX8_readNumber 69 = .ok (.bipush 48, 2) := by decide +kernel
theorem dX8_readNumber_71 : decode cX8_readNumber 71 = .ok (.isub, 1) := by decide +kernel
theorem dX8_readNumber_72 : decode cX8_readNumber 72 = .ok (.putfield 45, 3) := by decide +kernel
theorem dX8_readNumber_75 : decode cX8_readNumber 75 = .ok (.aload_n 0, 1) := by decide +kernel
theorem dX8_readNumber_76 : decode cX8_readNumber 76 = .ok (.dup, 1) := by decide +kernel
theorem dX8_readNumber_77 : decode cX8_readNumber 77 = .ok (.getfield 17, 3) := by decide +kernel
theorem dX8_readNumber_80 : decode cX8_readNumber 80 = .ok (.iconst 1, 1) := by decide +kernel
theorem dX8_readNumber_81 : decode cX8_readNumber 81 = .ok (.iadd, 1) := by decide +kernel
theorem dX8_readNumber_82 : decode cX8_readNumber 82 = .ok (.putfield 17, 3) := by decide +kernel
theorem dX8_readNumber_85 : decode cX8_readNumber 85 = .ok (.goto (-57), 3) := by decide +kernel
theorem dX8_readNumber_88 : decode cX8_readNumber 88 = .ok (.iload_n 1, 1) := by decide +kernel
theorem dX8_readNumber_89 : decode cX8_readNumber 89 = .ok (.ifCond .eq 12, 3) := by decide +kernel
theorem dX8_readNumber_92 : decode cX8_readNumber 92 = .ok (.aload_n 0, 1) := by decide +kernel
theorem dX8_readNumber_93 : decode cX8_readNumber 93 = .ok (.aload_n 0, 1) := by decide +kernel
theorem dX8_readNumber_94 : decode cX8_readNumber 94 = .ok (.getfield 45, 3) := by decide +kernel
theorem dX8_readNumber_97 : decode cX8_readNumber 97 = .ok (.ineg, 1) := by decide +kernel
theorem dX8_readNumber_98 : decode cX8_readNumber 98 = .ok (.putfield 45, 3) := by decide +kernel
theorem dX8_readNumber_101 : decode cX8_readNumber 101 = .ok (.aload_n 0, 1) := by decide +kernel
theorem dX8_readNumber_102 : decode cX8_readNumber 102 = .ok (.aload_n 0, 1) := by decide +kernel
theorem dX8_readNumber_103 : decode cX8_readNumber 103 = .ok (.getfield 17, 3) := by decide +kernel
theorem dX8_readNumber_106 : decode cX8_readNumber 106 = .ok (.iload_n 2, 1) := by decide +kernel
theorem dX8_readNumber_107 : decode cX8_readNumber 107 = .ok (.isub, 1) := by decide +kernel
theorem dX8_readNumber_108 : decode cX8_readNumber 108 = .ok (.iconst 5, 1) := by decide +kernel
theorem dX8_readNumber_109 : decode cX8_readNumber 109 = .ok (.if_icmp .gt 17, 3) := by decide +kernel
theorem dX8_readNumber_112 : decode cX8_readNumber 112 = .ok (.aload_n 0, 1) := by decide +kernel
theorem dX8_readNumber_113 : decode cX8_readNumber 113 = .ok (.aload_n 0, 1) := by decide +kernel
theorem dX8_readNumber_114 : decode cX8_readNumber 114 = .ok (.getfield 17, 3) := by decide +kernel
theorem dX8_readNumber_117 : decode cX8_readNumber 117 = .ok (.invokevirtual 23, 3) := by decide +kernel
theorem dX8_readNumber_120 : decode cX8_readNumber 120 = .ok (.invokestatic 30, 3) := by decide +kernel
theorem dX8_readNumber_123 : decode cX8_readNumber 123 = .ok (.ifCond .eq 7, 3) := by decide +kernel
theorem dX8_readNumber_126 : decode cX8_readNumber 126 = .ok (.iconst 1, 1) := by decide +kernel
theorem dX8_readNumber_127 : decode cX8_readNumber 127 = .ok (.goto 4, 3) := by decide +kernel
theorem dX8_readNumber_130 : decode cX8_readNumber 130 = .ok (.iconst 3, 1) := by decide +kernel
theorem dX8_readNumber_131 : decode cX8_readNumber 131 = .ok (.putfield 27, 3) := by decide +kernel
theorem dX8_readNumber_134 : decode cX8_readNumber 134 = .ok (.return_, 1) := by decide +kernel
theorem dX8_isWord_0 : decode cX8_isWord 0 = .ok (.aload_n 0, 1) := by decide +kernel
theorem dX8_isWord_1 : decode cX8_isWord 1 = .ok (.getfield 27, 3) := by decide +kernel
theorem dX8_isWord_4 : decode cX8_isWord 4 = .ok (.iconst 2, 1) := by decide +kernel
theorem dX8_isWord_5 : decode cX8_isWord 5 = .ok (.if_icmp .ne 16, 3) := by decide +kernel
theorem dX8_isWord_8 : decode cX8_isWord 8 = .ok (.aload_n 0, 1) := by decide +kernel
theorem dX8_isWord_9 : decode cX8_isWord 9 = .ok (.getfield 34, 3) := by decide +kernel
theorem dX8_isWord_12 : decode cX8_isWord 12 = .ok (.lload_n 1, 1) := by decide +kernel
theorem dX8_isWord_13 : decode cX8_isWord 13 = .ok (.lcmp, 1) := by decide +kernel
theorem dX8_isWord_14 : decode cX8_isWord 14 = .ok (.ifCond .ne 7, 3) := by decide +kernel
theorem dX8_isWord_17 : decode cX8_isWord 17 = .ok (.iconst 1, 1) := by decide +kernel
theorem dX8_isWord_18 : decode cX8_isWord 18 = .ok (.goto 4, 3) := by decide +kernel
theorem dX8_isWord_21 : decode cX8_isWord 21 = .ok (.iconst 0, 1) := by decide +kernel
theorem dX8_isWord_22 : decode cX8_isWord 22 = .ok (.ireturn, 1) := by decide +kernel
theorem dX8_wrong_0 : decode cX8_wrong 0 = .ok (.aload_n 0, 1) := by decide +kernel
theorem dX8_wrong_1 : decode cX8_wrong 1 = .ok (.aload_n 0, 1) := by decide +kernel
theorem dX8_wrong_2 : decode cX8_wrong 2 = .ok (.getfield 27, 3) := by decide +kernel
theorem dX8_wrong_5 : decode cX8_wrong 5 = .ok (.iconst 1, 1) := by decide +kernel
theorem dX8_wrong_6 : decode cX8_wrong 6 = .ok (.if_icmp .ne 7, 3) := by decide +kernel
theorem dX8_wrong_9 : decode cX8_wrong 9 = .ok (.iconst 1, 1) := by decide +kernel
theorem dX8_wrong_10 : decode cX8_wrong 10 = .ok (.goto 4, 3) := by decide +kernel
theorem dX8_wrong_13 : decode cX8_wrong 13 = .ok (.iconst 2, 1) := by decide +kernel
theorem dX8_wrong_14 : decode cX8_wrong 14 = .ok (.aload_n 0, 1) := by decide +kernel
theorem dX8_wrong_15 : decode cX8_wrong 15 = .ok (.getfield 20, 3) := by decide +kernel
theorem dX8_wrong_18 : decode cX8_wrong 18 = .ok (.invokevirtual 48, 3) := by decide +kernel
theorem dX8_wrong_21 : decode cX8_wrong 21 = .ok (.return_, 1) := by decide +kernel
theorem dX8_init_0 : decode cX8_init 0 = .ok (.aload_n 0, 1) := by decide +kernel
theorem dX8_init_1 : decode cX8_init 1 = .ok (.invokespecial 52, 3) := by decide +kernel
theorem dX8_init_4 : decode cX8_init 4 = .ok (.aload_n 0, 1) := by decide +kernel
theorem dX8_init_5 : decode cX8_init 5 = .ok (.sipush 1020, 3) := by decide +kernel
theorem dX8_init_8 : decode cX8_init 8 = .ok (.newarray .byte, 2) := by decide +kernel
theorem dX8_init_10 : decode cX8_init 10 = .ok (.putfield 58, 3) := by decide +kernel
theorem dX8_init_13 : decode cX8_init 13 = .ok (.aload_n 0, 1) := by decide +kernel
theorem dX8_init_14 : decode cX8_init 14 = .ok (.sipush 1000, 3) := by decide +kernel
theorem dX8_init_17 : decode cX8_init 17 = .ok (.newarray .byte, 2) := by decide +kernel
theorem dX8_init_19 : decode cX8_init 19 = .ok (.putfield 7, 3) := by decide +kernel
theorem dX8_init_22 : decode cX8_init 22 = .ok (.aload_n 0, 1) := by decide +kernel
theorem dX8_init_23 : decode cX8_init 23 = .ok (.iconst (-1), 1) := by decide +kernel
theorem dX8_init_24 : decode cX8_init 24 = .ok (.putfield 14, 3) := by decide +kernel
theorem dX8_init_27 : decode cX8_init 27 = .ok (.aload_n 0, 1) := by decide +kernel
theorem dX8_init_28 : decode cX8_init 28 = .ok (.iconst 2, 1) := by decide +kernel
theorem dX8_init_29 : decode cX8_init 29 = .ok (.newarray .int, 2) := by decide +kernel
theorem dX8_init_31 : decode cX8_init 31 = .ok (.putfield 61, 3) := by decide +kernel
theorem dX8_init_34 : decode cX8_init 34 = .ok (.aload_n 0, 1) := by decide +kernel
theorem dX8_init_35 : decode cX8_init 35 = .ok (.iconst 2, 1) := by decide +kernel
theorem dX8_init_36 : decode cX8_init 36 = .ok (.newarray .int, 2) := by decide +kernel
theorem dX8_init_38 : decode cX8_init 38 = .ok (.putfield 65, 3) := by decide +kernel
theorem dX8_init_41 : decode cX8_init 41 = .ok (.aload_n 0, 1) := by decide +kernel
theorem dX8_init_42 : decode cX8_init 42 = .ok (.bipush 32, 2) := by decide +kernel
theorem dX8_init_44 : decode cX8_init 44 = .ok (.newarray .int, 2) := by decide +kernel
theorem dX8_init_46 : decode cX8_init 46 = .ok (.putfield 68, 3) := by decide +kernel
theorem dX8_init_49 : decode cX8_init 49 = .ok (.aload_n 0, 1) := by decide +kernel
theorem dX8_init_50 : decode cX8_init 50 = .ok (.bipush 32, 2) := by decide +kernel
theorem dX8_init_52 : decode cX8_init 52 = .ok (.newarray .int, 2) := by decide +kernel
theorem dX8_init_54 : decode cX8_init 54 = .ok (.putfield 71, 3) := by decide +kernel
theorem dX8_init_57 : decode cX8_init 57 = .ok (.aload_n 0, 1) := by decide +kernel
theorem dX8_init_58 : decode cX8_init 58 = .ok (.bipush 32, 2) := by decide +kernel
theorem dX8_init_60 : decode cX8_init 60 = .ok (.newarray .int, 2) := by decide +kernel
theorem dX8_init_62 : decode cX8_init 62 = .ok (.putfield 74, 3) := by decide +kernel
theorem dX8_init_65 : decode cX8_init 65 = .ok (.aload_n 0, 1) := by decide +kernel
theorem dX8_init_66 : decode cX8_init 66 = .ok (.bipush 32, 2) := by decide +kernel
theorem dX8_init_68 : decode cX8_init 68 = .ok (.newarray .int, 2) := by decide +kernel
theorem dX8_init_70 : decode cX8_init 70 = .ok (.putfield 77, 3) := by decide +kernel
theorem dX8_init_73 : decode cX8_init 73 = .ok (.aload_n 0, 1) := by decide +kernel
theorem dX8_init_74 : decode cX8_init 74 = .ok (.bipush 32, 2) := by decide +kernel
theorem dX8_init_76 : decode cX8_init 76 = .ok (.newarray .int, 2) := by decide +kernel
theorem dX8_init_78 : decode cX8_init 78 = .ok (.putfield 80, 3) := by decide +kernel
theorem dX8_init_81 : decode cX8_init 81 = .ok (.aload_n 0, 1) := by decide +kernel
theorem dX8_init_82 : decode cX8_init 82 = .ok (.bipush 32, 2) := by decide +kernel
theorem dX8_init_84 : decode cX8_init 84 = .ok (.newarray .int, 2) := by decide +kernel
theorem dX8_init_86 : decode cX8_init 86 = .ok (.putfield 83, 3) := by decide +kernel
theorem dX8_init_89 : decode cX8_init 89 = .ok (.aload_n 0, 1) := by decide +kernel
theorem dX8_init_90 : decode cX8_init 90 = .ok (.bipush 32, 2) := by decide +kernel
theorem dX8_init_92 : decode cX8_init 92 = .ok (.newarray .int, 2) := by decide +kernel
theorem dX8_init_94 : decode cX8_init 94 = .ok (.putfield 86, 3) := by decide +kernel
theorem dX8_init_97 : decode cX8_init 97 = .ok (.aload_n 0, 1) := by decide +kernel
theorem dX8_init_98 : decode cX8_init 98 = .ok (.bipush 12, 2) := by decide +kernel
theorem dX8_init_100 : decode cX8_init 100 = .ok (.newarray .int, 2) := by decide +kernel
theorem dX8_init_102 : decode cX8_init 102 = .ok (.putfield 89, 3) := by decide +kernel
theorem dX8_init_105 : decode cX8_init 105 = .ok (.aload_n 0, 1) := by decide +kernel
theorem dX8_init_106 : decode cX8_init 106 = .ok (.sipush 576, 3) := by decide +kernel
theorem dX8_init_109 : decode cX8_init 109 = .ok (.newarray .int, 2) := by decide +kernel
theorem dX8_init_111 : decode cX8_init 111 = .ok (.putfield 92, 3) := by decide +kernel
theorem dX8_init_114 : decode cX8_init 114 = .ok (.aload_n 0, 1) := by decide +kernel
theorem dX8_init_115 : decode cX8_init 115 = .ok (.bipush 60, 2) := by decide +kernel
theorem dX8_init_117 : decode cX8_init 117 = .ok (.newarray .int, 2) := by decide +kernel
theorem dX8_init_119 : decode cX8_init 119 = .ok (.putfield 95, 3) := by decide +kernel
theorem dX8_init_122 : decode cX8_init 122 = .ok (.aload_n 0, 1) := by decide +kernel
theorem dX8_init_123 : decode cX8_init 123 = .ok (.bipush 12, 2) := by decide +kernel
theorem dX8_init_125 : decode cX8_init 125 = .ok (.newarray .int, 2) := by decide +kernel
theorem dX8_init_127 : decode cX8_init 127 = .ok (.putfield 98, 3) := by decide +kernel
theorem dX8_init_130 : decode cX8_init 130 = .ok (.aload_n 0, 1) := by decide +kernel
theorem dX8_init_131 : decode cX8_init 131 = .ok (.bipush 8, 2) := by decide +kernel
theorem dX8_init_133 : decode cX8_init 133 = .ok (.newarray .int, 2) := by decide +kernel
theorem dX8_init_135 : decode cX8_init 135 = .ok (.putfield 101, 3) := by decide +kernel
theorem dX8_init_138 : decode cX8_init 138 = .ok (.aload_n 0, 1) := by decide +kernel
theorem dX8_init_139 : decode cX8_init 139 = .ok (.bipush 96, 2) := by decide +kernel
theorem dX8_init_141 : decode cX8_init 141 = .ok (.newarray .int, 2) := by decide +kernel
theorem dX8_init_143 : decode cX8_init 143 = .ok (.putfield 104, 3) := by decide +kernel
theorem dX8_init_146 : decode cX8_init 146 = .ok (.aload_n 0, 1) := by decide +kernel
theorem dX8_init_147 : decode cX8_init 147 = .ok (.bipush 16, 2) := by decide +kernel
theorem dX8_init_149 : decode cX8_init 149 = .ok (.newarray .int, 2) := by decide +kernel
theorem dX8_init_151 : decode cX8_init 151 = .ok (.putfield 107, 3) := by decide +kernel
theorem dX8_init_154 : decode cX8_init 154 = .ok (.aload_n 0, 1) := by decide +kernel
theorem dX8_init_155 : decode cX8_init 155 = .ok (.bipush 16, 2) := by decide +kernel
theorem dX8_init_157 : decode cX8_init 157 = .ok (.newarray .int, 2) := by decide +kernel
theorem dX8_init_159 : decode cX8_init 159 = .ok (.putfield 110, 3) := by decide +kernel
theorem dX8_init_162 : decode cX8_init 162 = .ok (.aload_n 0, 1) := by decide +kernel
theorem dX8_init_163 : decode cX8_init 163 = .ok (.bipush 17, 2) := by decide +kernel
theorem dX8_init_165 : decode cX8_init 165 = .ok (.newarray .int, 2) := by decide +kernel
theorem dX8_init_167 : decode cX8_init 167 = .ok (.putfield 113, 3) := by decide +kernel
theorem dX8_init_170 : decode cX8_init 170 = .ok (.aload_n 0, 1) := by decide +kernel
theorem dX8_init_171 : decode cX8_init 171 = .ok (.iconst 0, 1) := by decide +kernel
theorem dX8_init_172 : decode cX8_init 172 = .ok (.invokevirtual 116, 3) := by decide +kernel
theorem dX8_init_175 : decode cX8_init 175 = .ok (.aload_n 0, 1) := by decide +kernel
theorem dX8_init_176 : decode cX8_init 176 = .ok (.iconst 1, 1) := by decide +kernel
theorem dX8_init_177 : decode cX8_init 177 = .ok (.invokevirtual 116, 3) := by decide +kernel
theorem dX8_init_180 : decode cX8_init 180 = .ok (.return_, 1) := by decide +kernel
theorem dX8_clear_0 : decode cX8_clear 0 = .ok (.aload_n 0, 1) := by decide +kernel
theorem dX8_clear_1 : decode cX8_clear 1 = .ok (.getfield 61, 3) := by decide +kernel
theorem dX8_clear_4 : decode cX8_clear 4 = .ok (.iload_n 1, 1) := by decide +kernel
theorem dX8_clear_5 : decode cX8_clear 5 = .ok (.iconst 0, 1) := by decide +kernel
theorem dX8_clear_6 : decode cX8_clear 6 = .ok (.iastore, 1) := by decide +kernel
theorem dX8_clear_7 : decode cX8_clear 7 = .ok (.aload_n 0, 1) := by decide +kernel
theorem dX8_clear_8 : decode cX8_clear 8 = .ok (.getfield 65, 3) := by decide +kernel
theorem dX8_clear_11 : decode cX8_clear 11 = .ok (.iload_n 1, 1) := by decide +kernel
theorem dX8_clear_12 : decode cX8_clear 12 = .ok (.iconst 0, 1) := by decide +kernel
theorem dX8_clear_13 : decode cX8_clear 13 = .ok (.iastore, 1) := by decide +kernel
theorem dX8_clear_14 : decode cX8_clear 14 = .ok (.iconst 0, 1) := by decide +kernel
theorem dX8_clear_15 : decode cX8_clear 15 = .ok (.istore_n 2, 1) := by decide +kernel
theorem dX8_clear_16 : decode cX8_clear 16 = .ok (.iload_n 2, 1) := by decide +kernel
theorem dX8_clear_17 : decode cX8_clear 17 = .ok (.bipush 6, 2) := by decide +kernel
theorem dX8_clear_19 : decode cX8_clear 19 = .ok (.if_icmp .ge 35, 3) := by decide +kernel
theorem dX8_clear_22 : decode cX8_clear 22 = .ok (.aload_n 0, 1) := by decide +kernel
theorem dX8_clear_23 : decode cX8_clear 23 = .ok (.getfield 89, 3) := by decide +kernel
theorem dX8_clear_26 : decode cX8_clear 26 = .ok (.bipush 6, 2) := by decide +kernel
theorem dX8_clear_28 : decode cX8_clear 28 = .ok (.iload_n 1, 1) := by decide +kernel
theorem dX8_clear_29 : decode cX8_clear 29 = .ok (.imul, 1) := by decide +kernel
theorem dX8_clear_30 : decode cX8_clear 30 = .ok (.iload_n 2, 1) := by decide +kernel
theorem dX8_clear_31 : decode cX8_clear 31 = .ok (.iadd, 1) := by decide +kernel
theorem dX8_clear_32 : decode cX8_clear 32 = .ok (.ldc 120, 2) := by decide +kernel
theorem dX8_clear_34 : decode cX8_clear 34 = .ok (.iastore, 1) := by decide +kernel
theorem dX8_clear_35 : decode cX8_clear 35 = .ok (.aload_n 0, 1) := by decide +kernel
theorem dX8_clear_36 : decode cX8_clear 36 = .ok (.getfield 98, 3) := by decide +kernel
theorem dX8_clear_39 : decode cX8_clear 39 = .ok (.bipush 6, 2) := by decide +kernel
theorem dX8_clear_41 : decode cX8_clear 41 = .ok (.iload_n 1, 1) := by decide +kernel
theorem dX8_clear_42 : decode cX8_clear 42 = .ok (.imul, 1) := by decide +kernel
theorem dX8_clear_43 : decode cX8_clear 43 = .ok (.iload_n 2, 1) := by decide +kernel
theorem dX8_clear_44 : decode cX8_clear 44 = .ok (.iadd, 1) := by decide +kernel
theorem dX8_clear_45 : decode cX8_clear 45 = .ok (.ldc 120, 2) := by decide +kernel
theorem dX8_clear_47 : decode cX8_clear 47 = .ok (.iastore, 1) := by decide +kernel
theorem dX8_clear_48 : decode cX8_clear 48 = .ok (.iinc 2 1, 3) := by decide +kernel
theorem dX8_clear_51 : decode cX8_clear 51 = .ok (.goto (-35), 3) := by decide +kernel
theorem dX8_clear_54 : decode cX8_clear 54 = .ok (.iconst 0, 1) := by decide +kernel
theorem dX8_clear_55 : decode cX8_clear 55 = .ok (.istore_n 2, 1) := by decide +kernel
theorem dX8_clear_56 : decode cX8_clear 56 = .ok (.iload_n 2, 1) := by decide +kernel
theorem dX8_clear_57 : decode cX8_clear 57 = .ok (.sipush 288, 3) := by decide +kernel
theorem dX8_clear_60 : decode cX8_clear 60 = .ok (.if_icmp .ge 23, 3) := by decide +kernel
theorem dX8_clear_63 : decode cX8_clear 63 = .ok (.aload_n 0, 1) := by decide +kernel
theorem dX8_clear_64 : decode cX8_clear 64 = .ok (.getfield 92, 3) := by decide +kernel
theorem dX8_clear_67 : decode cX8_clear 67 = .ok (.sipush 288, 3) := by decide +kernel
theorem dX8_clear_70 : decode cX8_clear 70 = .ok (.iload_n 1, 1) := by decide +kernel
theorem dX8_clear_71 : decode cX8_clear 71 = .ok (.imul, 1) := by decide +kernel
theorem dX8_clear_72 : decode cX8_clear 72 = .ok (.iload_n 2, 1) := by decide +kernel
theorem dX8_clear_73 : decode cX8_clear 73 = .ok (.iadd, 1) := by decide +kernel
theorem dX8_clear_74 : decode cX8_clear 74 = .ok (.ldc 120, 2) := by decide +kernel
theorem dX8_clear_76 : decode cX8_clear 76 = .ok (.iastore, 1) := by decide +kernel
theorem dX8_clear_77 : decode cX8_clear 77 = .ok (.iinc 2 1, 3) := by decide +kernel
theorem dX8_clear_80 : decode cX8_clear 80 = .ok (.goto (-24), 3) := by decide +kernel
theorem dX8_clear_83 : decode cX8_clear 83 = .ok (.iconst 0, 1) := by decide +kernel
theorem dX8_clear_84 : decode cX8_clear 84 = .ok (.istore_n 2, 1) := by decide +kernel
theorem dX8_clear_85 : decode cX8_clear 85 = .ok (.iload_n 2, 1) := by decide +kernel
theorem dX8_clear_86 : decode cX8_clear 86 = .ok (.bipush 30, 2) := by decide +kernel
theorem dX8_clear_88 : decode cX8_clear 88 = .ok (.if_icmp .ge 22, 3) := by decide +kernel
theorem dX8_clear_91 : decode cX8_clear 91 = .ok (.aload_n 0, 1) := by decide +kernel
theorem dX8_clear_92 : decode cX8_clear 92 = .ok (.getfield 95, 3) := by decide +kernel
theorem dX8_clear_95 : decode cX8_clear 95 = .ok (.bipush 30, 2) := by decide +kernel
theorem dX8_clear_97 : decode cX8_clear 97 = .ok (.iload_n 1, 1) := by decide +kernel
theorem dX8_clear_98 : decode cX8_clear 98 = .ok (.imul, 1) := by decide +kernel
theorem dX8_clear_99 : decode cX8_clear 99 = .ok (.iload_n 2, 1) := by decide +kernel
theorem dX8_clear_100 : decode cX8_clear 100 = .ok (.iadd, 1) := by decide +kernel
theorem dX8_clear_101 : decode cX8_clear 101 = .ok (.ldc 120, 2) := by decide +kernel
theorem dX8_clear_103 : decode cX8_clear 103 = .ok (.iastore, 1) := by decide +kernel
theorem dX8_clear_104 : decode cX8_clear 104 = .ok (.iinc 2 1, 3) := by decide +kernel
theorem dX8_clear_107 : decode cX8_clear 107 = .ok (.goto (-22), 3) := by decide +kernel
theorem dX8_clear_110 : decode cX8_clear 110 = .ok (.iconst 0, 1) := by decide +kernel
theorem dX8_clear_111 : decode cX8_clear 111 = .ok (.istore_n 2, 1) := by decide +kernel
theorem dX8_clear_112 : decode cX8_clear 112 = .ok (.iload_n 2, 1) := by decide +kernel
theorem dX8_clear_113 : decode cX8_clear 113 = .ok (.iconst 4, 1) := by decide +kernel
theorem dX8_clear_114 : decode cX8_clear 114 = .ok (.if_icmp .ge 21, 3) := by decide +kernel
theorem dX8_clear_117 : decode cX8_clear 117 = .ok (.aload_n 0, 1) := by decide +kernel
theorem dX8_clear_118 : decode cX8_clear 118 = .ok (.getfield 101, 3) := by decide +kernel
theorem dX8_clear_121 : decode cX8_clear 121 = .ok (.iconst 4, 1) := by decide +kernel
theorem dX8_clear_122 : decode cX8_clear 122 = .ok (.iload_n 1, 1) := by decide +kernel
theorem dX8_clear_123 : decode cX8_clear 123 = .ok (.imul, 1) := by decide +kernel
theorem dX8_clear_124 : decode cX8_clear 124 = .ok (.iload_n 2, 1) := by decide +kernel
theorem dX8_clear_125 : decode cX8_clear 125 = .ok (.iadd, 1) := by decide +kernel
theorem dX8_clear_126 : decode cX8_clear 126 = .ok (.ldc 120, 2) := by decide +kernel
theorem dX8_clear_128 : decode cX8_clear 128 = .ok (.iastore, 1) := by decide +kernel
theorem dX8_clear_129 : decode cX8_clear 129 = .ok (.iinc 2 1, 3) := by decide +kernel
theorem dX8_clear_132 : decode cX8_clear 132 = .ok (.goto (-20), 3) := by decide +kernel
theorem dX8_clear_135 : decode cX8_clear 135 = .ok (.return_, 1) := by decide +kernel
theorem dX8_book_0 : decode cX8_book 0 = .ok (.aload_n 0, 1) := by decide +kernel
theorem dX8_book_1 : decode cX8_book 1 = .ok (.iconst 0, 1) := by decide +kernel
theorem dX8_book_2 : decode cX8_book 2 = .ok (.putfield 11, 3) := by decide +kernel
theorem dX8_book_5 : decode cX8_book 5 = .ok (.aload_n 0, 1) := by decide +kernel
theorem dX8_book_6 : decode cX8_book 6 = .ok (.iconst (-1), 1) := by decide +kernel
theorem dX8_book_7 : decode cX8_book 7 = .ok (.putfield 14, 3) := by decide +kernel
theorem dX8_book_10 : decode cX8_book 10 = .ok (.aload_n 0, 1) := by decide +kernel
theorem dX8_book_11 : decode cX8_book 11 = .ok (.aload_n 0, 1) := by decide +kernel
theorem dX8_book_12 : decode cX8_book 12 = .ok (.getfield 121, 3) := by decide +kernel
theorem dX8_book_15 : decode cX8_book 15 = .ok (.putfield 1, 3) := by decide +kernel
theorem dX8_book_18 : decode cX8_book 18 = .ok (.iconst 0, 1) := by decide +kernel
theorem dX8_book_19 : decode cX8_book 19 = .ok (.istore_n 1, 1) := by decide +kernel
theorem dX8_book_20 : decode cX8_book 20 = .ok (.iload_n 1, 1) := by decide +kernel
theorem dX8_book_21 : decode cX8_book 21 = .ok (.aload_n 0, 1) := by decide +kernel
theorem dX8_book_22 : decode cX8_book 22 = .ok (.getfield 1, 3) := by decide +kernel
theorem dX8_book_25 : decode cX8_book 25 = .ok (.if_icmp .ge 21, 3) := by decide +kernel
theorem dX8_book_28 : decode cX8_book 28 = .ok (.aload_n 0, 1) := by decide +kernel
theorem dX8_book_29 : decode cX8_book 29 = .ok (.getfield 7, 3) := by decide +kernel
theorem dX8_book_32 : decode cX8_book 32 = .ok (.iload_n 1, 1) := by decide +kernel
theorem dX8_book_33 : decode cX8_book 33 = .ok (.aload_n 0, 1) := by decide +kernel
theorem dX8_book_34 : decode cX8_book 34 = .ok (.getfield 58, 3) := by decide +kernel
theorem dX8_book_37 : decode cX8_book 37 = .ok (.iload_n 1, 1) := by decide +kernel
theorem dX8_book_38 : decode cX8_book 38 = .ok (.baload, 1) := by decide +kernel
theorem dX8_book_39 : decode cX8_book 39 = .ok (.bastore, 1) := by decide +kernel
theorem dX8_book_40 : decode cX8_book 40 = .ok (.iinc 1 1, 3) := by decide +kernel
theorem dX8_book_43 : decode cX8_book 43 = .ok (.goto (-23), 3) := by decide +kernel
theorem dX8_book_46 : decode cX8_book 46 = .ok (.aload_n 0, 1) := by decide +kernel
theorem dX8_book_47 : decode cX8_book 47 = .ok (.iconst 0, 1) := by decide +kernel
theorem dX8_book_48 : decode cX8_book 48 = .ok (.putfield 121, 3) := by decide +kernel
theorem dX8_book_51 : decode cX8_book 51 = .ok (.aload_n 0, 1) := by decide +kernel
theorem dX8_book_52 : decode cX8_book 52 = .ok (.iconst 0, 1) := by decide +kernel
theorem dX8_book_53 : decode cX8_book 53 = .ok (.putfield 17, 3) := by decide +kernel
theorem dX8_book_56 : decode cX8_book 56 = .ok (.aload_n 0, 1) := by decide +kernel
theorem dX8_book_57 : decode cX8_book 57 = .ok (.iconst 1, 1) := by decide +kernel
theorem dX8_book_58 : decode cX8_book 58 = .ok (.aload_n 0, 1) := by decide +kernel
theorem dX8_book_59 : decode cX8_book 59 = .ok (.getfield 124, 3) := by decide +kernel
theorem dX8_book_62 : decode cX8_book 62 = .ok (.isub, 1) := by decide +kernel
theorem dX8_book_63 : decode cX8_book 63 = .ok (.putfield 127, 3) := by decide +kernel
theorem dX8_book_66 : decode cX8_book 66 = .ok (.aload_n 0, 1) := by decide +kernel
theorem dX8_book_67 : decode cX8_book 67 = .ok (.aload_n 0, 1) := by decide +kernel
theorem dX8_book_68 : decode cX8_book 68 = .ok (.getfield 127, 3) := by decide +kernel
theorem dX8_book_71 : decode cX8_book 71 = .ok (.invokevirtual 116, 3) := by decide +kernel
theorem dX8_book_74 : decode cX8_book 74 = .ok (.aload_n 0, 1) := by decide +kernel
theorem dX8_book_75 : decode cX8_book 75 = .ok (.invokevirtual 130, 3) := by decide +kernel
theorem dX8_book_78 : decode cX8_book 78 = .ok (.aload_n 0, 1) := by decide +kernel
theorem dX8_book_79 : decode cX8_book 79 = .ok (.invokevirtual 133, 3) := by decide +kernel
theorem dX8_book_82 : decode cX8_book 82 = .ok (.ifCond .eq 17, 3) := by decide +kernel
theorem dX8_book_85 : decode cX8_book 85 = .ok (.aload_n 0, 1) := by decide +kernel
theorem dX8_book_86 : decode cX8_book 86 = .ok (.getfield 27, 3) := by decide +kernel
theorem dX8_book_89 : decode cX8_book 89 = .ok (.ifCond .eq 10, 3) := by decide +kernel
theorem dX8_book_92 : decode cX8_book 92 = .ok (.aload_n 0, 1) := by decide +kernel
theorem dX8_book_93 : decode cX8_book 93 = .ok (.invokevirtual 137, 3) := by decide +kernel
theorem dX8_book_96 : decode cX8_book 96 = .ok (.goto (-18), 3) := by decide +kernel
theorem dX8_book_99 : decode cX8_book 99 = .ok (.aload_n 0, 1) := by decide +kernel
theorem dX8_book_100 : decode cX8_book 100 = .ok (.invokevirtual 133, 3) := by decide +kernel
theorem dX8_book_103 : decode cX8_book 103 = .ok (.ifCond .ne 5, 3) := by decide +kernel
theorem dX8_book_106 : decode cX8_book 106 = .ok (.iconst (-1), 1) := by decide +kernel
theorem dX8_book_107 : decode cX8_book 107 = .ok (.ireturn, 1) := by decide +kernel
theorem dX8_book_108 : decode cX8_book 108 = .ok (.aload_n 0, 1) := by decide +kernel
theorem dX8_book_109 : decode cX8_book 109 = .ok (.aload_n 0, 1) := by decide +kernel
theorem dX8_book_110 : decode cX8_book 110 = .ok (.getfield 127, 3) := by decide +kernel
theorem dX8_book_113 : decode cX8_book 113 = .ok (.putfield 124, 3) := by decide +kernel
theorem dX8_book_116 : decode cX8_book 116 = .ok (.aload_n 0, 1) := by decide +kernel
theorem dX8_book_117 : decode cX8_book 117 = .ok (.iconst 0, 1) := by decide +kernel
theorem dX8_book_118 : decode cX8_book 118 = .ok (.putfield 140, 3) := by decide +kernel
theorem dX8_book_121 : decode cX8_book 121 = .ok (.aload_n 0, 1) := by decide +kernel
theorem dX8_book_122 : decode cX8_book 122 = .ok (.getfield 65, 3) := by decide +kernel
theorem dX8_book_125 : decode cX8_book 125 = .ok (.aload_n 0, 1) := by decide +kernel
theorem dX8_book_126 : decode cX8_book 126 = .ok (.getfield 124, 3) := by decide +kernel
theorem dX8_book_129 : decode cX8_book 129 = .ok (.iaload, 1) := by decide +kernel
theorem dX8_book_130 : decode cX8_book 130 = .ok (.ireturn, 1) := by decide +kernel
theorem dX8_numeral_0 : decode cX8_numeral 0 = .ok (.aload_n 0, 1) := by decide +kernel
theorem dX8_numeral_1 : decode cX8_numeral 1 = .ok (.invokevirtual 133, 3) := by decide +kernel
theorem dX8_numeral_4 : decode cX8_numeral 4 = .ok (.ifCond .ne 5, 3) := by decide +kernel
theorem dX8_numeral_7 : decode cX8_numeral 7 = .ok (.iconst 0, 1) := by decide +kernel
theorem dX8_numeral_8 : decode cX8_numeral 8 = .ok (.ireturn, 1) := by decide +kernel
theorem dX8_numeral_9 : decode cX8_numeral 9 = .ok (.aload_n 0, 1) := by decide +kernel
theorem dX8_numeral_10 : decode cX8_numeral 10 = .ok (.aload_n 0, 1) := by decide +kernel
theorem dX8_numeral_11 : decode cX8_numeral 11 = .ok (.getfield 20, 3) := by decide +kernel
theorem dX8_numeral_14 : decode cX8_numeral 14 = .ok (.putfield 144, 3) := by decide +kernel
theorem dX8_numeral_17 : decode cX8_numeral 17 = .ok (.aload_n 0, 1) := by decide +kernel
theorem dX8_numeral_18 : decode cX8_numeral 18 = .ok (.getfield 27, 3) := by decide +kernel
theorem dX8_numeral_21 : decode cX8_numeral 21 = .ok (.iconst 3, 1) := by decide +kernel
theorem dX8_numeral_22 : decode cX8_numeral 22 = .ok (.if_icmp .eq 7, 3) := by decide +kernel
theorem dX8_numeral_25 : decode cX8_numeral 25 = .ok (.aload_n 0, 1) := by decide +kernel
theorem dX8_numeral_26 : decode cX8_numeral 26 = .ok (.invokevirtual 147, 3) := by decide +kernel
theorem dX8_numeral_29 : decode cX8_numeral 29 = .ok (.aload_n 0, 1) := by decide +kernel
theorem dX8_numeral_30 : decode cX8_numeral 30 = .ok (.invokevirtual 133, 3) := by decide +kernel
theorem dX8_numeral_33 : decode cX8_numeral 33 = .ok (.ifCond .eq 28, 3) := by decide +kernel
theorem dX8_numeral_36 : decode cX8_numeral 36 = .ok (.aload_n 0, 1) := by decide +kernel
theorem dX8_numeral_37 : decode cX8_numeral 37 = .ok (.getfield 45, 3) := by decide +kernel
theorem dX8_numeral_40 : decode cX8_numeral 40 = .ok (.iload_n 1, 1) := by decide +kernel
theorem dX8_numeral_41 : decode cX8_numeral 41 = .ok (.if_icmp .lt 11, 3) := by decide +kernel
theorem dX8_numeral_44 : decode cX8_numeral 44 = .ok (.aload_n 0, 1) := by decide +kernel
theorem dX8_numeral_45 : decode cX8_numeral 45 = .ok (.getfield 45, 3) := by decide +kernel
theorem dX8_numeral_48 : decode cX8_numeral 48 = .ok (.iload_n 2, 1) := by decide +kernel
theorem dX8_numeral_49 : decode cX8_numeral 49 = .ok (.if_icmp .le 12, 3) := by decide +kernel
theorem dX8_numeral_52 : decode cX8_numeral 52 = .ok (.aload_n 0, 1) := by decide +kernel
theorem dX8_numeral_53 : decode cX8_numeral 53 = .ok (.iconst 3, 1) := by decide +kernel
theorem dX8_numeral_54 : decode cX8_numeral 54 = .ok (.aload_n 0, 1) := by decide +kernel
theorem dX8_numeral_55 : decode cX8_numeral 55 = .ok (.getfield 20, 3) := by decide +kernel
theorem dX8_numeral_58 : decode cX8_numeral 58 = .ok (.invokevirtual 48, 3) := by decide +kernel
theorem dX8_numeral_61 : decode cX8_numeral 61 = .ok (.aload_n 0, 1) := by decide +kernel
theorem dX8_numeral_62 : decode cX8_numeral 62 = .ok (.getfield 45, 3) := by decide +kernel
theorem dX8_numeral_65 : decode cX8_numeral 65 = .ok (.istore_n 3, 1) := by decide +kernel
theorem dX8_numeral_66 : decode cX8_numeral 66 = .ok (.aload_n 0, 1) := by decide +kernel
theorem dX8_numeral_67 : decode cX8_numeral 67 = .ok (.invokevirtual 133, 3) := by decide +kernel
theorem dX8_numeral_70 : decode cX8_numeral 70 = .ok (.ifCond .eq 7, 3) := by decide +kernel
theorem dX8_numeral_73 : decode cX8_numeral 73 = .ok (.aload_n 0, 1) := by decide +kernel
theorem dX8_numeral_74 : decode cX8_numeral 74 = .ok (.invokevirtual 130, 3) := by decide +kernel
theorem dX8_numeral_77 : decode cX8_numeral 77 = .ok (.aload_n 0, 1) := by decide +kernel
theorem dX8_numeral_78 : decode cX8_numeral 78 = .ok (.invokevirtual 133, 3) := by decide +kernel
theorem dX8_numeral_81 : decode cX8_numeral 81 = .ok (.ifCond .eq 7, 3) := by decide +kernel
theorem dX8_numeral_84 : decode cX8_numeral 84 = .ok (.iload_n 3, 1) := by decide +kernel
theorem dX8_numeral_85 : decode cX8_numeral 85 = .ok (.goto 12, 3) := by decide +kernel
theorem dX8_numeral_88 : decode cX8_numeral 88 = .ok (.iload_n 1, 1) := by decide +kernel
theorem dX8_numeral_89 : decode cX8_numeral 89 = .ok (.ifCond .ge 7, 3) := by decide +kernel
theorem dX8_numeral_92 : decode cX8_numeral 92 = .ok (.iconst 0, 1) := by decide +kernel
theorem dX8_numeral_93 : decode cX8_numeral 93 = .ok (.goto 4, 3) := by decide +kernel
theorem dX8_numeral_96 : decode cX8_numeral 96 = .ok (.iload_n 1, 1) := by decide +kernel
theorem dX8_numeral_97 : decode cX8_numeral 97 = .ok (.ireturn, 1) := by decide +kernel
theorem dX8_twice_0 : decode cX8_twice 0 = .ok (.aload_n 0, 1) := by decide +kernel
theorem dX8_twice_1 : decode cX8_twice 1 = .ok (.invokevirtual 133, 3) := by decide +kernel
theorem dX8_twice_4 : decode cX8_twice 4 = .ok (.ifCond .eq 16, 3) := by decide +kernel
theorem dX8_twice_7 : decode cX8_twice 7 = .ok (.iload_n 1, 1) := by decide +kernel
theorem dX8_twice_8 : decode cX8_twice 8 = .ok (.ifCond .eq 12, 3) := by decide +kernel
theorem dX8_twice_11 : decode cX8_twice 11 = .ok (.aload_n 0, 1) := by decide +kernel
theorem dX8_twice_12 : decode cX8_twice 12 = .ok (.iconst 4, 1) := by decide +kernel
theorem dX8_twice_13 : decode cX8_twice 13 = .ok (.aload_n 0, 1) := by decide +kernel
theorem dX8_twice_14 : decode cX8_twice 14 = .ok (.getfield 144, 3) := by decide +kernel
theorem dX8_twice_17 : decode cX8_twice 17 = .ok (.invokevirtual 48, 3) := by decide +kernel
theorem dX8_twice_20 : decode cX8_twice 20 = .ok (.return_, 1) := by decide +kernel
theorem dX8_limitHere_0 : decode cX8_limitHere 0 = .ok (.aload_n 0, 1) := by decide +kernel
theorem dX8_limitHere_1 : decode cX8_limitHere 1 = .ok (.ldc2_w 150, 3) := by decide +kernel
theorem dX8_limitHere_4 : decode cX8_limitHere 4 = .ok (.invokevirtual 152, 3) := by decide +kernel
theorem dX8_limitHere_7 : decode cX8_limitHere 7 = .ok (.ifCond .eq 7, 3) := by decide +kernel
theorem dX8_limitHere_10 : decode cX8_limitHere 10 = .ok (.iconst 0, 1) := by decide +kernel
theorem dX8_limitHere_11 : decode cX8_limitHere 11 = .ok (.goto 46, 3) := by decide +kernel
theorem dX8_limitHere_14 : decode cX8_limitHere 14 = .ok (.aload_n 0, 1) := by decide +kernel
theorem dX8_limitHere_15 : decode cX8_limitHere 15 = .ok (.ldc2_w 156, 3) := by decide +kernel
theorem dX8_limitHere_18 : decode cX8_limitHere 18 = .ok (.invokevirtual 152, 3) := by decide +kernel
theorem dX8_limitHere_21 : decode cX8_limitHere 21 = .ok (.ifCond .eq 7, 3) := by decide +kernel
theorem dX8_limitHere_24 : decode cX8_limitHere 24 = .ok (.iconst 1, 1) := by decide +kernel
theorem dX8_limitHere_25 : decode cX8_limitHere 25 = .ok (.goto 32, 3) := by decide +kernel
theorem dX8_limitHere_28 : decode cX8_limitHere 28 = .ok (.aload_n 0, 1) := by decide +kernel
theorem dX8_limitHere_29 : decode cX8_limitHere 29 = .ok (.ldc2_w 158, 3) := by decide +kernel
theorem dX8_limitHere_32 : decode cX8_limitHere 32 = .ok (.invokevirtual 152, 3) := by decide +kernel
theorem dX8_limitHere_35 : decode cX8_limitHere 35 = .ok (.ifCond .eq 7, 3) := by decide +kernel
theorem dX8_limitHere_38 : decode cX8_limitHere 38 = .ok (.iconst 2, 1) := by decide +kernel
