theorem dX8_limitHere_39 : decode cX8_limitHere 39 = .ok (.goto 18, 3) := by decide +kernel
theorem dX8_limitHere_42 : decode cX8_limitHere 42 = .ok (.aload_n 0, 1) := by decide +kernel
theorem dX8_limitHere_43 : decode cX8_limitHere 43 = .ok (.ldc2_w 160, 3) := by decide +kernel
theorem dX8_limitHere_46 : decode cX8_limitHere 46 = .ok (.invokevirtual 152, 3) := by decide +kernel
theorem dX8_limitHere_49 : decode cX8_limitHere 49 = .ok (.ifCond .eq 7, 3) := by decide +kernel
theorem dX8_limitHere_52 : decode cX8_limitHere 52 = .ok (.iconst 3, 1) := by decide +kernel
theorem dX8_limitHere_53 : decode cX8_limitHere 53 = .ok (.goto 4, 3) := by decide +kernel
theorem dX8_limitHere_56 : decode cX8_limitHere 56 = .ok (.iconst (-1), 1) := by decide +kernel
theorem dX8_limitHere_57 : decode cX8_limitHere 57 = .ok (.ireturn, 1) := by decide +kernel
theorem dX8_readLine_0 : decode cX8_readLine 0 = .ok (.aload_n 0, 1) := by decide +kernel
theorem dX8_readLine_1 : decode cX8_readLine 1 = .ok (.invokevirtual 162, 3) := by decide +kernel
theorem dX8_readLine_4 : decode cX8_readLine 4 = .ok (.istore_n 1, 1) := by decide +kernel
theorem dX8_readLine_5 : decode cX8_readLine 5 = .ok (.iload_n 1, 1) := by decide +kernel
theorem dX8_readLine_6 : decode cX8_readLine 6 = .ok (.ifCond .ge 53, 3) := by decide +kernel
theorem dX8_readLine_9 : decode cX8_readLine 9 = .ok (.aload_n 0, 1) := by decide +kernel
theorem dX8_readLine_10 : decode cX8_readLine 10 = .ok (.ldc2_w 166, 3) := by decide +kernel
theorem dX8_readLine_13 : decode cX8_readLine 13 = .ok (.invokevirtual 152, 3) := by decide +kernel
theorem dX8_readLine_16 : decode cX8_readLine 16 = .ok (.ifCond .ne 43, 3) := by decide +kernel
theorem dX8_readLine_19 : decode cX8_readLine 19 = .ok (.aload_n 0, 1) := by decide +kernel
theorem dX8_readLine_20 : decode cX8_readLine 20 = .ok (.ldc2_w 168, 3) := by decide +kernel
theorem dX8_readLine_23 : decode cX8_readLine 23 = .ok (.invokevirtual 152, 3) := by decide +kernel
theorem dX8_readLine_26 : decode cX8_readLine 26 = .ok (.ifCond .ne 33, 3) := by decide +kernel
theorem dX8_readLine_29 : decode cX8_readLine 29 = .ok (.aload_n 0, 1) := by decide +kernel
theorem dX8_readLine_30 : decode cX8_readLine 30 = .ok (.ldc2_w 170, 3) := by decide +kernel
theorem dX8_readLine_33 : decode cX8_readLine 33 = .ok (.invokevirtual 152, 3) := by decide +kernel
theorem dX8_readLine_36 : decode cX8_readLine 36 = .ok (.ifCond .ne 23, 3) := by decide +kernel
theorem dX8_readLine_39 : decode cX8_readLine 39 = .ok (.aload_n 0, 1) := by decide +kernel
theorem dX8_readLine_40 : decode cX8_readLine 40 = .ok (.ldc2_w 172, 3) := by decide +kernel
theorem dX8_readLine_43 : decode cX8_readLine 43 = .ok (.invokevirtual 152, 3) := by decide +kernel
theorem dX8_readLine_46 : decode cX8_readLine 46 = .ok (.ifCond .ne 13, 3) := by decide +kernel
theorem dX8_readLine_49 : decode cX8_readLine 49 = .ok (.aload_n 0, 1) := by decide +kernel
theorem dX8_readLine_50 : decode cX8_readLine 50 = .ok (.ldc2_w 174, 3) := by decide +kernel
theorem dX8_readLine_53 : decode cX8_readLine 53 = .ok (.invokevirtual 152, 3) := by decide +kernel
theorem dX8_readLine_56 : decode cX8_readLine 56 = .ok (.ifCond .eq 7, 3) := by decide +kernel
theorem dX8_readLine_59 : decode cX8_readLine 59 = .ok (.iconst 1, 1) := by decide +kernel
theorem dX8_readLine_60 : decode cX8_readLine 60 = .ok (.goto 4, 3) := by decide +kernel
theorem dX8_readLine_63 : decode cX8_readLine 63 = .ok (.iconst 0, 1) := by decide +kernel
theorem dX8_readLine_64 : decode cX8_readLine 64 = .ok (.istore_n 2, 1) := by decide +kernel
theorem dX8_readLine_65 : decode cX8_readLine 65 = .ok (.iload_n 2, 1) := by decide +kernel
theorem dX8_readLine_66 : decode cX8_readLine 66 = .ok (.ifCond .eq 41, 3) := by decide +kernel
theorem dX8_readLine_69 : decode cX8_readLine 69 = .ok (.aload_n 0, 1) := by decide +kernel
theorem dX8_readLine_70 : decode cX8_readLine 70 = .ok (.getfield 61, 3) := by decide +kernel
theorem dX8_readLine_73 : decode cX8_readLine 73 = .ok (.aload_n 0, 1) := by decide +kernel
theorem dX8_readLine_74 : decode cX8_readLine 74 = .ok (.getfield 127, 3) := by decide +kernel
theorem dX8_readLine_77 : decode cX8_readLine 77 = .ok (.iaload, 1) := by decide +kernel
theorem dX8_readLine_78 : decode cX8_readLine 78 = .ok (.bipush 60, 2) := by decide +kernel
theorem dX8_readLine_80 : decode cX8_readLine 80 = .ok (.if_icmp .eq 27, 3) := by decide +kernel
theorem dX8_readLine_83 : decode cX8_readLine 83 = .ok (.aload_n 0, 1) := by decide +kernel
theorem dX8_readLine_84 : decode cX8_readLine 84 = .ok (.ldc2_w 166, 3) := by decide +kernel
theorem dX8_readLine_87 : decode cX8_readLine 87 = .ok (.invokevirtual 152, 3) := by decide +kernel
theorem dX8_readLine_90 : decode cX8_readLine 90 = .ok (.ifCond .eq 21, 3) := by decide +kernel
theorem dX8_readLine_93 : decode cX8_readLine 93 = .ok (.aload_n 0, 1) := by decide +kernel
theorem dX8_readLine_94 : decode cX8_readLine 94 = .ok (.getfield 65, 3) := by decide +kernel
theorem dX8_readLine_97 : decode cX8_readLine 97 = .ok (.aload_n 0, 1) := by decide +kernel
theorem dX8_readLine_98 : decode cX8_readLine 98 = .ok (.getfield 127, 3) := by decide +kernel
theorem dX8_readLine_101 : decode cX8_readLine 101 = .ok (.iaload, 1) := by decide +kernel
theorem dX8_readLine_102 : decode cX8_readLine 102 = .ok (.bipush 16, 2) := by decide +kernel
theorem dX8_readLine_104 : decode cX8_readLine 104 = .ok (.if_icmp .ne 7, 3) := by decide +kernel
theorem dX8_readLine_107 : decode cX8_readLine 107 = .ok (.aload_n 0, 1) := by decide +kernel
theorem dX8_readLine_108 : decode cX8_readLine 108 = .ok (.invokevirtual 147, 3) := by decide +kernel
theorem dX8_readLine_111 : decode cX8_readLine 111 = .ok (.aload_n 0, 1) := by decide +kernel
theorem dX8_readLine_112 : decode cX8_readLine 112 = .ok (.invokevirtual 133, 3) := by decide +kernel
theorem dX8_readLine_115 : decode cX8_readLine 115 = .ok (.ifCond .eq 34, 3) := by decide +kernel
theorem dX8_readLine_118 : decode cX8_readLine 118 = .ok (.iload_n 1, 1) := by decide +kernel
theorem dX8_readLine_119 : decode cX8_readLine 119 = .ok (.ifCond .lt 30, 3) := by decide +kernel
theorem dX8_readLine_122 : decode cX8_readLine 122 = .ok (.aload_n 0, 1) := by decide +kernel
theorem dX8_readLine_123 : decode cX8_readLine 123 = .ok (.getfield 101, 3) := by decide +kernel
theorem dX8_readLine_126 : decode cX8_readLine 126 = .ok (.iconst 4, 1) := by decide +kernel
theorem dX8_readLine_127 : decode cX8_readLine 127 = .ok (.aload_n 0, 1) := by decide +kernel
theorem dX8_readLine_128 : decode cX8_readLine 128 = .ok (.getfield 127, 3) := by decide +kernel
theorem dX8_readLine_131 : decode cX8_readLine 131 = .ok (.imul, 1) := by decide +kernel
theorem dX8_readLine_132 : decode cX8_readLine 132 = .ok (.iload_n 1, 1) := by decide +kernel
theorem dX8_readLine_133 : decode cX8_readLine 133 = .ok (.iadd, 1) := by decide +kernel
theorem dX8_readLine_134 : decode cX8_readLine 134 = .ok (.iaload, 1) := by decide +kernel
theorem dX8_readLine_135 : decode cX8_readLine 135 = .ok (.ldc 120, 2) := by decide +kernel
theorem dX8_readLine_137 : decode cX8_readLine 137 = .ok (.if_icmp .eq 12, 3) := by decide +kernel
theorem dX8_readLine_140 : decode cX8_readLine 140 = .ok (.aload_n 0, 1) := by decide +kernel
theorem dX8_readLine_141 : decode cX8_readLine 141 = .ok (.iconst 4, 1) := by decide +kernel
theorem dX8_readLine_142 : decode cX8_readLine 142 = .ok (.aload_n 0, 1) := by decide +kernel
theorem dX8_readLine_143 : decode cX8_readLine 143 = .ok (.getfield 20, 3) := by decide +kernel
theorem dX8_readLine_146 : decode cX8_readLine 146 = .ok (.invokevirtual 48, 3) := by decide +kernel
theorem dX8_readLine_149 : decode cX8_readLine 149 = .ok (.aload_n 0, 1) := by decide +kernel
theorem dX8_readLine_150 : decode cX8_readLine 150 = .ok (.invokevirtual 133, 3) := by decide +kernel
theorem dX8_readLine_153 : decode cX8_readLine 153 = .ok (.ifCond .ne 4, 3) := by decide +kernel
theorem dX8_readLine_156 : decode cX8_readLine 156 = .ok (.return_, 1) := by decide +kernel
theorem dX8_readLine_157 : decode cX8_readLine 157 = .ok (.aload_n 0, 1) := by decide +kernel
theorem dX8_readLine_158 : decode cX8_readLine 158 = .ok (.getfield 34, 3) := by decide +kernel
theorem dX8_readLine_161 : decode cX8_readLine 161 = .ok (.lstore_n 3, 1) := by decide +kernel
theorem dX8_readLine_162 : decode cX8_readLine 162 = .ok (.aload_n 0, 1) := by decide +kernel
theorem dX8_readLine_163 : decode cX8_readLine 163 = .ok (.invokevirtual 130, 3) := by decide +kernel
theorem dX8_readLine_166 : decode cX8_readLine 166 = .ok (.iload_n 1, 1) := by decide +kernel
theorem dX8_readLine_167 : decode cX8_readLine 167 = .ok (.ifCond .lt 26, 3) := by decide +kernel
theorem dX8_readLine_170 : decode cX8_readLine 170 = .ok (.aload_n 0, 1) := by decide +kernel
theorem dX8_readLine_171 : decode cX8_readLine 171 = .ok (.getfield 101, 3) := by decide +kernel
theorem dX8_readLine_174 : decode cX8_readLine 174 = .ok (.iconst 4, 1) := by decide +kernel
theorem dX8_readLine_175 : decode cX8_readLine 175 = .ok (.aload_n 0, 1) := by decide +kernel
theorem dX8_readLine_176 : decode cX8_readLine 176 = .ok (.getfield 127, 3) := by decide +kernel
theorem dX8_readLine_179 : decode cX8_readLine 179 = .ok (.imul, 1) := by decide +kernel
theorem dX8_readLine_180 : decode cX8_readLine 180 = .ok (.iload_n 1, 1) := by decide +kernel
theorem dX8_readLine_181 : decode cX8_readLine 181 = .ok (.iadd, 1) := by decide +kernel
theorem dX8_readLine_182 : decode cX8_readLine 182 = .ok (.aload_n 0, 1) := by decide +kernel
theorem dX8_readLine_183 : decode cX8_readLine 183 = .ok (.iconst 0, 1) := by decide +kernel
theorem dX8_readLine_184 : decode cX8_readLine 184 = .ok (.ldc 176, 2) := by decide +kernel
theorem dX8_readLine_186 : decode cX8_readLine 186 = .ok (.invokevirtual 177, 3) := by decide +kernel
theorem dX8_readLine_189 : decode cX8_readLine 189 = .ok (.iastore, 1) := by decide +kernel
theorem dX8_readLine_190 : decode cX8_readLine 190 = .ok (.goto 84, 3) := by decide +kernel
theorem dX8_readLine_193 : decode cX8_readLine 193 = .ok (.lload_n 3, 1) := by decide +kernel
theorem dX8_readLine_194 : decode cX8_readLine 194 = .ok (.ldc2_w 166, 3) := by decide +kernel
theorem dX8_readLine_197 : decode cX8_readLine 197 = .ok (.lcmp, 1) := by decide +kernel
theorem dX8_readLine_198 : decode cX8_readLine 198 = .ok (.ifCond .ne 10, 3) := by decide +kernel
theorem dX8_readLine_201 : decode cX8_readLine 201 = .ok (.aload_n 0, 1) := by decide +kernel
theorem dX8_readLine_202 : decode cX8_readLine 202 = .ok (.invokevirtual 181, 3) := by decide +kernel
theorem dX8_readLine_205 : decode cX8_readLine 205 = .ok (.goto 69, 3) := by decide +kernel
theorem dX8_readLine_208 : decode cX8_readLine 208 = .ok (.lload_n 3, 1) := by decide +kernel
theorem dX8_readLine_209 : decode cX8_readLine 209 = .ok (.ldc2_w 168, 3) := by decide +kernel
theorem dX8_readLine_212 : decode cX8_readLine 212 = .ok (.lcmp, 1) := by decide +kernel
theorem dX8_readLine_213 : decode cX8_readLine 213 = .ok (.ifCond .ne 19, 3) := by decide +kernel
theorem dX8_readLine_216 : decode cX8_readLine 216 = .ok (.aload_n 0, 1) := by decide +kernel
theorem dX8_readLine_217 : decode cX8_readLine 217 = .ok (.aload_n 0, 1) := by decide +kernel
theorem dX8_readLine_218 : decode cX8_readLine 218 = .ok (.getfield 89, 3) := by decide +kernel
theorem dX8_readLine_221 : decode cX8_readLine 221 = .ok (.bipush 100, 2) := by decide +kernel
theorem dX8_readLine_223 : decode cX8_readLine 223 = .ok (.sipush 999, 3) := by decide +kernel
theorem dX8_readLine_226 : decode cX8_readLine 226 = .ok (.invokevirtual 184, 3) := by decide +kernel
theorem dX8_readLine_229 : decode cX8_readLine 229 = .ok (.goto 45, 3) := by decide +kernel
theorem dX8_readLine_232 : decode cX8_readLine 232 = .ok (.lload_n 3, 1) := by decide +kernel
theorem dX8_readLine_233 : decode cX8_readLine 233 = .ok (.ldc2_w 174, 3) := by decide +kernel
theorem dX8_readLine_236 : decode cX8_readLine 236 = .ok (.lcmp, 1) := by decide +kernel
theorem dX8_readLine_237 : decode cX8_readLine 237 = .ok (.ifCond .ne 18, 3) := by decide +kernel
theorem dX8_readLine_240 : decode cX8_readLine 240 = .ok (.aload_n 0, 1) := by decide +kernel
theorem dX8_readLine_241 : decode cX8_readLine 241 = .ok (.aload_n 0, 1) := by decide +kernel
theorem dX8_readLine_242 : decode cX8_readLine 242 = .ok (.getfield 98, 3) := by decide +kernel
theorem dX8_readLine_245 : decode cX8_readLine 245 = .ok (.iconst 0, 1) := by decide +kernel
theorem dX8_readLine_246 : decode cX8_readLine 246 = .ok (.sipush 999, 3) := by decide +kernel
theorem dX8_readLine_249 : decode cX8_readLine 249 = .ok (.invokevirtual 184, 3) := by decide +kernel
theorem dX8_readLine_252 : decode cX8_readLine 252 = .ok (.goto 22, 3) := by decide +kernel
theorem dX8_readLine_255 : decode cX8_readLine 255 = .ok (.lload_n 3, 1) := by decide +kernel
theorem dX8_readLine_256 : decode cX8_readLine 256 = .ok (.ldc2_w 170, 3) := by decide +kernel
theorem dX8_readLine_259 : decode cX8_readLine 259 = .ok (.lcmp, 1) := by decide +kernel
theorem dX8_readLine_260 : decode cX8_readLine 260 = .ok (.ifCond .ne 10, 3) := by decide +kernel
theorem dX8_readLine_263 : decode cX8_readLine 263 = .ok (.aload_n 0, 1) := by decide +kernel
theorem dX8_readLine_264 : decode cX8_readLine 264 = .ok (.invokevirtual 188, 3) := by decide +kernel
theorem dX8_readLine_267 : decode cX8_readLine 267 = .ok (.goto 7, 3) := by decide +kernel
theorem dX8_readLine_270 : decode cX8_readLine 270 = .ok (.aload_n 0, 1) := by decide +kernel
theorem dX8_readLine_271 : decode cX8_readLine 271 = .ok (.invokevirtual 191, 3) := by decide +kernel
theorem dX8_readLine_274 : decode cX8_readLine 274 = .ok (.aload_n 0, 1) := by decide +kernel
theorem dX8_readLine_275 : decode cX8_readLine 275 = .ok (.invokevirtual 133, 3) := by decide +kernel
theorem dX8_readLine_278 : decode cX8_readLine 278 = .ok (.ifCond .eq 15, 3) := by decide +kernel
theorem dX8_readLine_281 : decode cX8_readLine 281 = .ok (.aload_n 0, 1) := by decide +kernel
theorem dX8_readLine_282 : decode cX8_readLine 282 = .ok (.getfield 27, 3) := by decide +kernel
theorem dX8_readLine_285 : decode cX8_readLine 285 = .ok (.iconst 4, 1) := by decide +kernel
theorem dX8_readLine_286 : decode cX8_readLine 286 = .ok (.if_icmp .eq 7, 3) := by decide +kernel
theorem dX8_readLine_289 : decode cX8_readLine 289 = .ok (.aload_n 0, 1) := by decide +kernel
theorem dX8_readLine_290 : decode cX8_readLine 290 = .ok (.invokevirtual 147, 3) := by decide +kernel
theorem dX8_readLine_293 : decode cX8_readLine 293 = .ok (.aload_n 0, 1) := by decide +kernel
theorem dX8_readLine_294 : decode cX8_readLine 294 = .ok (.invokevirtual 133, 3) := by decide +kernel
theorem dX8_readLine_297 : decode cX8_readLine 297 = .ok (.ifCond .eq 7, 3) := by decide +kernel
theorem dX8_readLine_300 : decode cX8_readLine 300 = .ok (.aload_n 0, 1) := by decide +kernel
theorem dX8_readLine_301 : decode cX8_readLine 301 = .ok (.invokevirtual 130, 3) := by decide +kernel
theorem dX8_readLine_304 : decode cX8_readLine 304 = .ok (.aload_n 0, 1) := by decide +kernel
theorem dX8_readLine_305 : decode cX8_readLine 305 = .ok (.getfield 61, 3) := by decide +kernel
theorem dX8_readLine_308 : decode cX8_readLine 308 = .ok (.aload_n 0, 1) := by decide +kernel
theorem dX8_readLine_309 : decode cX8_readLine 309 = .ok (.getfield 127, 3) := by decide +kernel
theorem dX8_readLine_312 : decode cX8_readLine 312 = .ok (.dup2, 1) := by decide +kernel
theorem dX8_readLine_313 : decode cX8_readLine 313 = .ok (.iaload, 1) := by decide +kernel
theorem dX8_readLine_314 : decode cX8_readLine 314 = .ok (.iconst 1, 1) := by decide +kernel
theorem dX8_readLine_315 : decode cX8_readLine 315 = .ok (.iadd, 1) := by decide +kernel
theorem dX8_readLine_316 : decode cX8_readLine 316 = .ok (.iastore, 1) := by decide +kernel
theorem dX8_readLine_317 : decode cX8_readLine 317 = .ok (.return_, 1) := by decide +kernel
theorem dX8_readOne_0 : decode cX8_readOne 0 = .ok (.bipush 6, 2) := by decide +kernel
theorem dX8_readOne_2 : decode cX8_readOne 2 = .ok (.aload_n 0, 1) := by decide +kernel
theorem dX8_readOne_3 : decode cX8_readOne 3 = .ok (.getfield 127, 3) := by decide +kernel
theorem dX8_readOne_6 : decode cX8_readOne 6 = .ok (.imul, 1) := by decide +kernel
theorem dX8_readOne_7 : decode cX8_readOne 7 = .ok (.aload_n 0, 1) := by decide +kernel
theorem dX8_readOne_8 : decode cX8_readOne 8 = .ok (.iconst 0, 1) := by decide +kernel
theorem dX8_readOne_9 : decode cX8_readOne 9 = .ok (.iconst 5, 1) := by decide +kernel
theorem dX8_readOne_10 : decode cX8_readOne 10 = .ok (.invokevirtual 177, 3) := by decide +kernel
theorem dX8_readOne_13 : decode cX8_readOne 13 = .ok (.iadd, 1) := by decide +kernel
theorem dX8_readOne_14 : decode cX8_readOne 14 = .ok (.istore 4, 2) := by decide +kernel
theorem dX8_readOne_16 : decode cX8_readOne 16 = .ok (.aload_n 0, 1) := by decide +kernel
theorem dX8_readOne_17 : decode cX8_readOne 17 = .ok (.aload_n 1, 1) := by decide +kernel
theorem dX8_readOne_18 : decode cX8_readOne 18 = .ok (.iload 4, 2) := by decide +kernel
theorem dX8_readOne_20 : decode cX8_readOne 20 = .ok (.iaload, 1) := by decide +kernel
theorem dX8_readOne_21 : decode cX8_readOne 21 = .ok (.ldc 120, 2) := by decide +kernel
theorem dX8_readOne_23 : decode cX8_readOne 23 = .ok (.if_icmp .eq 7, 3) := by decide +kernel
theorem dX8_readOne_26 : decode cX8_readOne 26 = .ok (.iconst 1, 1) := by decide +kernel
theorem dX8_readOne_27 : decode cX8_readOne 27 = .ok (.goto 4, 3) := by decide +kernel
theorem dX8_readOne_30 : decode cX8_readOne 30 = .ok (.iconst 0, 1) := by decide +kernel
theorem dX8_readOne_31 : decode cX8_readOne 31 = .ok (.invokevirtual 194, 3) := by decide +kernel
theorem dX8_readOne_34 : decode cX8_readOne 34 = .ok (.aload_n 1, 1) := by decide +kernel
theorem dX8_readOne_35 : decode cX8_readOne 35 = .ok (.iload 4, 2) := by decide +kernel
theorem dX8_readOne_37 : decode cX8_readOne 37 = .ok (.aload_n 0, 1) := by decide +kernel
theorem dX8_readOne_38 : decode cX8_readOne 38 = .ok (.iload_n 2, 1) := by decide +kernel
theorem dX8_readOne_39 : decode cX8_readOne 39 = .ok (.iload_n 3, 1) := by decide +kernel
theorem dX8_readOne_40 : decode cX8_readOne 40 = .ok (.invokevirtual 177, 3) := by decide +kernel
theorem dX8_readOne_43 : decode cX8_readOne 43 = .ok (.iastore, 1) := by decide +kernel
theorem dX8_readOne_44 : decode cX8_readOne 44 = .ok (.return_, 1) := by decide +kernel
theorem dX8_readLeg_0 : decode cX8_readLeg 0 = .ok (.bipush 16, 2) := by decide +kernel
theorem dX8_readLeg_2 : decode cX8_readLeg 2 = .ok (.aload_n 0, 1) := by decide +kernel
theorem dX8_readLeg_3 : decode cX8_readLeg 3 = .ok (.getfield 127, 3) := by decide +kernel
theorem dX8_readLeg_6 : decode cX8_readLeg 6 = .ok (.imul, 1) := by decide +kernel
theorem dX8_readLeg_7 : decode cX8_readLeg 7 = .ok (.aload_n 0, 1) := by decide +kernel
theorem dX8_readLeg_8 : decode cX8_readLeg 8 = .ok (.getfield 65, 3) := by decide +kernel
theorem dX8_readLeg_11 : decode cX8_readLeg 11 = .ok (.aload_n 0, 1) := by decide +kernel
theorem dX8_readLeg_12 : decode cX8_readLeg 12 = .ok (.getfield 127, 3) := by decide +kernel
theorem dX8_readLeg_15 : decode cX8_readLeg 15 = .ok (.iaload, 1) := by decide +kernel
theorem dX8_readLeg_16 : decode cX8_readLeg 16 = .ok (.iadd, 1) := by decide +kernel
theorem dX8_readLeg_17 : decode cX8_readLeg 17 = .ok (.istore_n 1, 1) := by decide +kernel
theorem dX8_readLeg_18 : decode cX8_readLeg 18 = .ok (.aload_n 0, 1) := by decide +kernel
theorem dX8_readLeg_19 : decode cX8_readLeg 19 = .ok (.getfield 68, 3) := by decide +kernel
theorem dX8_readLeg_22 : decode cX8_readLeg 22 = .ok (.iload_n 1, 1) := by decide +kernel
theorem dX8_readLeg_23 : decode cX8_readLeg 23 = .ok (.aload_n 0, 1) := by decide +kernel
theorem dX8_readLeg_24 : decode cX8_readLeg 24 = .ok (.iconst 0, 1) := by decide +kernel
theorem dX8_readLeg_25 : decode cX8_readLeg 25 = .ok (.bipush 9, 2) := by decide +kernel
theorem dX8_readLeg_27 : decode cX8_readLeg 27 = .ok (.invokevirtual 177, 3) := by decide +kernel
theorem dX8_readLeg_30 : decode cX8_readLeg 30 = .ok (.iastore, 1) := by decide +kernel
theorem dX8_readLeg_31 : decode cX8_readLeg 31 = .ok (.aload_n 0, 1) := by decide +kernel
theorem dX8_readLeg_32 : decode cX8_readLeg 32 = .ok (.invokevirtual 133, 3) := by decide +kernel
theorem dX8_readLeg_35 : decode cX8_readLeg 35 = .ok (.ifCond .eq 33, 3) := by decide +kernel
theorem dX8_readLeg_38 : decode cX8_readLeg 38 = .ok (.aload_n 0, 1) := by decide +kernel
theorem dX8_readLeg_39 : decode cX8_readLeg 39 = .ok (.getfield 27, 3) := by decide +kernel
theorem dX8_readLeg_42 : decode cX8_readLeg 42 = .ok (.iconst 3, 1) := by decide +kernel
theorem dX8_readLeg_43 : decode cX8_readLeg 43 = .ok (.if_icmp .ne 25, 3) := by decide +kernel
theorem dX8_readLeg_46 : decode cX8_readLeg 46 = .ok (.aload_n 0, 1) := by decide +kernel
theorem dX8_readLeg_47 : decode cX8_readLeg 47 = .ok (.getfield 45, 3) := by decide +kernel
theorem dX8_readLeg_50 : decode cX8_readLeg 50 = .ok (.aload_n 0, 1) := by decide +kernel
theorem dX8_readLeg_51 : decode cX8_readLeg 51 = .ok (.getfield 68, 3) := by decide +kernel
theorem dX8_readLeg_54 : decode cX8_readLeg 54 = .ok (.iload_n 1, 1) := by decide +kernel
theorem dX8_readLeg_55 : decode cX8_readLeg 55 = .ok (.iaload, 1) := by decide +kernel
theorem dX8_readLeg_56 : decode cX8_readLeg 56 = .ok (.if_icmp .ne 12, 3) := by decide +kernel
theorem dX8_readLeg_59 : decode cX8_readLeg 59 = .ok (.aload_n 0, 1) := by decide +kernel
theorem dX8_readLeg_60 : decode cX8_readLeg 60 = .ok (.iconst 3, 1) := by decide +kernel
theorem dX8_readLeg_61 : decode cX8_readLeg 61 = .ok (.aload_n 0, 1) := by decide +kernel
theorem dX8_readLeg_62 : decode cX8_readLeg 62 = .ok (.getfield 20, 3) := by decide +kernel
theorem dX8_readLeg_65 : decode cX8_readLeg 65 = .ok (.invokevirtual 48, 3) := by decide +kernel
theorem dX8_readLeg_68 : decode cX8_readLeg 68 = .ok (.aload_n 0, 1) := by decide +kernel
theorem dX8_readLeg_69 : decode cX8_readLeg 69 = .ok (.getfield 71, 3) := by decide +kernel
theorem dX8_readLeg_72 : decode cX8_readLeg 72 = .ok (.iload_n 1, 1) := by decide +kernel
theorem dX8_readLeg_73 : decode cX8_readLeg 73 = .ok (.aload_n 0, 1) := by decide +kernel
theorem dX8_readLeg_74 : decode cX8_readLeg 74 = .ok (.iconst 0, 1) := by decide +kernel
theorem dX8_readLeg_75 : decode cX8_readLeg 75 = .ok (.bipush 9, 2) := by decide +kernel
theorem dX8_readLeg_77 : decode cX8_readLeg 77 = .ok (.invokevirtual 177, 3) := by decide +kernel
theorem dX8_readLeg_80 : decode cX8_readLeg 80 = .ok (.iastore, 1) := by decide +kernel
theorem dX8_readLeg_81 : decode cX8_readLeg 81 = .ok (.aload_n 0, 1) := by decide +kernel
theorem dX8_readLeg_82 : decode cX8_readLeg 82 = .ok (.getfield 74, 3) := by decide +kernel
theorem dX8_readLeg_85 : decode cX8_readLeg 85 = .ok (.iload_n 1, 1) := by decide +kernel
theorem dX8_readLeg_86 : decode cX8_readLeg 86 = .ok (.aload_n 0, 1) := by decide +kernel
theorem dX8_readLeg_87 : decode cX8_readLeg 87 = .ok (.iconst 1, 1) := by decide +kernel
theorem dX8_readLeg_88 : decode cX8_readLeg 88 = .ok (.sipush 999, 3) := by decide +kernel
theorem dX8_readLeg_91 : decode cX8_readLeg 91 = .ok (.invokevirtual 177, 3) := by decide +kernel
theorem dX8_readLeg_94 : decode cX8_readLeg 94 = .ok (.iastore, 1) := by decide +kernel
theorem dX8_readLeg_95 : decode cX8_readLeg 95 = .ok (.aload_n 0, 1) := by decide +kernel
theorem dX8_readLeg_96 : decode cX8_readLeg 96 = .ok (.getfield 77, 3) := by decide +kernel
theorem dX8_readLeg_99 : decode cX8_readLeg 99 = .ok (.iload_n 1, 1) := by decide +kernel
theorem dX8_readLeg_100 : decode cX8_readLeg 100 = .ok (.iconst 0, 1) := by decide +kernel
theorem dX8_readLeg_101 : decode cX8_readLeg 101 = .ok (.iastore, 1) := by decide +kernel
theorem dX8_readLeg_102 : decode cX8_readLeg 102 = .ok (.aload_n 0, 1) := by decide +kernel
theorem dX8_readLeg_103 : decode cX8_readLeg 103 = .ok (.getfield 80, 3) := by decide +kernel
theorem dX8_readLeg_106 : decode cX8_readLeg 106 = .ok (.iload_n 1, 1) := by decide +kernel
theorem dX8_readLeg_107 : decode cX8_readLeg 107 = .ok (.iconst 5, 1) := by decide +kernel
theorem dX8_readLeg_108 : decode cX8_readLeg 108 = .ok (.iastore, 1) := by decide +kernel
theorem dX8_readLeg_109 : decode cX8_readLeg 109 = .ok (.aload_n 0, 1) := by decide +kernel
theorem dX8_readLeg_110 : decode cX8_readLeg 110 = .ok (.getfield 83, 3) := by decide +kernel
theorem dX8_readLeg_113 : decode cX8_readLeg 113 = .ok (.iload_n 1, 1) := by decide +kernel
theorem dX8_readLeg_114 : decode cX8_readLeg 114 = .ok (.iconst 0, 1) := by decide +kernel
theorem dX8_readLeg_115 : decode cX8_readLeg 115 = .ok (.iastore, 1) := by decide +kernel
theorem dX8_readLeg_116 : decode cX8_readLeg 116 = .ok (.aload_n 0, 1) := by decide +kernel
theorem dX8_readLeg_117 : decode cX8_readLeg 117 = .ok (.getfield 86, 3) := by decide +kernel
theorem dX8_readLeg_120 : decode cX8_readLeg 120 = .ok (.iload_n 1, 1) := by decide +kernel
theorem dX8_readLeg_121 : decode cX8_readLeg 121 = .ok (.sipush 999, 3) := by decide +kernel
theorem dX8_readLeg_124 : decode cX8_readLeg 124 = .ok (.iastore, 1) := by decide +kernel
theorem dX8_readLeg_125 : decode cX8_readLeg 125 = .ok (.aload_n 0, 1) := by decide +kernel
theorem dX8_readLeg_126 : decode cX8_readLeg 126 = .ok (.invokevirtual 133, 3) := by decide +kernel
theorem dX8_readLeg_129 : decode cX8_readLeg 129 = .ok (.ifCond .eq 46, 3) := by decide +kernel
theorem dX8_readLeg_132 : decode cX8_readLeg 132 = .ok (.aload_n 0, 1) := by decide +kernel
theorem dX8_readLeg_133 : decode cX8_readLeg 133 = .ok (.ldc2_w 197, 3) := by decide +kernel
theorem dX8_readLeg_136 : decode cX8_readLeg 136 = .ok (.invokevirtual 152, 3) := by decide +kernel
theorem dX8_readLeg_139 : decode cX8_readLeg 139 = .ok (.ifCond .eq 36, 3) := by decide +kernel
theorem dX8_readLeg_142 : decode cX8_readLeg 142 = .ok (.aload_n 0, 1) := by decide +kernel
theorem dX8_readLeg_143 : decode cX8_readLeg 143 = .ok (.invokevirtual 130, 3) := by decide +kernel
theorem dX8_readLeg_146 : decode cX8_readLeg 146 = .ok (.aload_n 0, 1) := by decide +kernel
theorem dX8_readLeg_147 : decode cX8_readLeg 147 = .ok (.getfield 77, 3) := by decide +kernel
theorem dX8_readLeg_150 : decode cX8_readLeg 150 = .ok (.iload_n 1, 1) := by decide +kernel
theorem dX8_readLeg_151 : decode cX8_readLeg 151 = .ok (.aload_n 0, 1) := by decide +kernel
theorem dX8_readLeg_152 : decode cX8_readLeg 152 = .ok (.iconst 0, 1) := by decide +kernel
theorem dX8_readLeg_153 : decode cX8_readLeg 153 = .ok (.iconst 5, 1) := by decide +kernel
theorem dX8_readLeg_154 : decode cX8_readLeg 154 = .ok (.invokevirtual 177, 3) := by decide +kernel
theorem dX8_readLeg_157 : decode cX8_readLeg 157 = .ok (.iastore, 1) := by decide +kernel
theorem dX8_readLeg_158 : decode cX8_readLeg 158 = .ok (.aload_n 0, 1) := by decide +kernel
theorem dX8_readLeg_159 : decode cX8_readLeg 159 = .ok (.getfield 80, 3) := by decide +kernel
theorem dX8_readLeg_162 : decode cX8_readLeg 162 = .ok (.iload_n 1, 1) := by decide +kernel
theorem dX8_readLeg_163 : decode cX8_readLeg 163 = .ok (.aload_n 0, 1) := by decide +kernel
theorem dX8_readLeg_164 : decode cX8_readLeg 164 = .ok (.aload_n 0, 1) := by decide +kernel
theorem dX8_readLeg_165 : decode cX8_readLeg 165 = .ok (.getfield 77, 3) := by decide +kernel
theorem dX8_readLeg_168 : decode cX8_readLeg 168 = .ok (.iload_n 1, 1) := by decide +kernel
theorem dX8_readLeg_169 : decode cX8_readLeg 169 = .ok (.iaload, 1) := by decide +kernel
theorem dX8_readLeg_170 : decode cX8_readLeg 170 = .ok (.iconst 5, 1) := by decide +kernel
theorem dX8_readLeg_171 : decode cX8_readLeg 171 = .ok (.invokevirtual 177, 3) := by decide +kernel
theorem dX8_readLeg_174 : decode cX8_readLeg 174 = .ok (.iastore, 1) := by decide +kernel
theorem dX8_readLeg_175 : decode cX8_readLeg 175 = .ok (.aload_n 0, 1) := by decide +kernel
theorem dX8_readLeg_176 : decode cX8_readLeg 176 = .ok (.invokevirtual 133, 3) := by decide +kernel
theorem dX8_readLeg_179 : decode cX8_readLeg 179 = .ok (.ifCond .eq 50, 3) := by decide +kernel
theorem dX8_readLeg_182 : decode cX8_readLeg 182 = .ok (.aload_n 0, 1) := by decide +kernel
theorem dX8_readLeg_183 : decode cX8_readLeg 183 = .ok (.ldc2_w 199, 3) := by decide +kernel
theorem dX8_readLeg_186 : decode cX8_readLeg 186 = .ok (.invokevirtual 152, 3) := by decide +kernel
theorem dX8_readLeg_189 : decode cX8_readLeg 189 = .ok (.ifCond .eq 40, 3) := by decide +kernel
theorem dX8_readLeg_192 : decode cX8_readLeg 192 = .ok (.aload_n 0, 1) := by decide +kernel
theorem dX8_readLeg_193 : decode cX8_readLeg 193 = .ok (.invokevirtual 130, 3) := by decide +kernel
theorem dX8_readLeg_196 : decode cX8_readLeg 196 = .ok (.aload_n 0, 1) := by decide +kernel
theorem dX8_readLeg_197 : decode cX8_readLeg 197 = .ok (.getfield 83, 3) := by decide +kernel
theorem dX8_readLeg_200 : decode cX8_readLeg 200 = .ok (.iload_n 1, 1) := by decide +kernel
theorem dX8_readLeg_201 : decode cX8_readLeg 201 = .ok (.aload_n 0, 1) := by decide +kernel
theorem dX8_readLeg_202 : decode cX8_readLeg 202 = .ok (.iconst 0, 1) := by decide +kernel
theorem dX8_readLeg_203 : decode cX8_readLeg 203 = .ok (.sipush 999, 3) := by decide +kernel
theorem dX8_readLeg_206 : decode cX8_readLeg 206 = .ok (.invokevirtual 177, 3) := by decide +kernel
theorem dX8_readLeg_209 : decode cX8_readLeg 209 = .ok (.iastore, 1) := by decide +kernel
theorem dX8_readLeg_210 : decode cX8_readLeg 210 = .ok (.aload_n 0, 1) := by decide +kernel
theorem dX8_readLeg_211 : decode cX8_readLeg 211 = .ok (.getfield 86, 3) := by decide +kernel
theorem dX8_readLeg_214 : decode cX8_readLeg 214 = .ok (.iload_n 1, 1) := by decide +kernel
theorem dX8_readLeg_215 : decode cX8_readLeg 215 = .ok (.aload_n 0, 1) := by decide +kernel
theorem dX8_readLeg_216 : decode cX8_readLeg 216 = .ok (.aload_n 0, 1) := by decide +kernel
theorem dX8_readLeg_217 : decode cX8_readLeg 217 = .ok (.getfield 83, 3) := by decide +kernel
theorem dX8_readLeg_220 : decode cX8_readLeg 220 = .ok (.iload_n 1, 1) := by decide +kernel
theorem dX8_readLeg_221 : decode cX8_readLeg 221 = .ok (.iaload, 1) := by decide +kernel
theorem dX8_readLeg_222 : decode cX8_readLeg 222 = .ok (.sipush 999, 3) := by decide +kernel
theorem dX8_readLeg_225 : decode cX8_readLeg 225 = .ok (.invokevirtual 177, 3) := by decide +kernel
theorem dX8_readLeg_228 : decode cX8_readLeg 228 = .ok (.iastore, 1) := by decide +kernel
theorem dX8_readLeg_229 : decode cX8_readLeg 229 = .ok (.aload_n 0, 1) := by decide +kernel
theorem dX8_readLeg_230 : decode cX8_readLeg 230 = .ok (.invokevirtual 133, 3) := by decide +kernel
theorem dX8_readLeg_233 : decode cX8_readLeg 233 = .ok (.ifCond .eq 16, 3) := by decide +kernel
theorem dX8_readLeg_236 : decode cX8_readLeg 236 = .ok (.aload_n 0, 1) := by decide +kernel
theorem dX8_readLeg_237 : decode cX8_readLeg 237 = .ok (.getfield 65, 3) := by decide +kernel
theorem dX8_readLeg_240 : decode cX8_readLeg 240 = .ok (.aload_n 0, 1) := by decide +kernel
theorem dX8_readLeg_241 : decode cX8_readLeg 241 = .ok (.getfield 127, 3) := by decide +kernel
theorem dX8_readLeg_244 : decode cX8_readLeg 244 = .ok (.dup2, 1) := by decide +kernel
theorem dX8_readLeg_245 : decode cX8_readLeg 245 = .ok (.iaload, 1) := by decide +kernel
theorem dX8_readLeg_246 : decode cX8_readLeg 246 = .ok (.iconst 1, 1) := by decide +kernel
theorem dX8_readLeg_247 : decode cX8_readLeg 247 = .ok (.iadd, 1) := by decide +kernel
theorem dX8_readLeg_248 : decode cX8_readLeg 248 = .ok (.iastore, 1) := by decide +kernel
theorem dX8_readLeg_249 : decode cX8_readLeg 249 = .ok (.return_, 1) := by decide +kernel
theorem dX8_windSpot_0 : decode cX8_windSpot 0 = .ok (.sipush 288, 3) := by decide +kernel
theorem dX8_windSpot_3 : decode cX8_windSpot 3 = .ok (.iload_n 0, 1) := by decide +kernel
theorem dX8_windSpot_4 : decode cX8_windSpot 4 = .ok (.imul, 1) := by decide +kernel
theorem dX8_windSpot_5 : decode cX8_windSpot 5 = .ok (.iload_n 1, 1) := by decide +kernel
theorem dX8_windSpot_6 : decode cX8_windSpot 6 = .ok (.bipush 6, 2) := by decide +kernel
theorem dX8_windSpot_8 : decode cX8_windSpot 8 = .ok (.imul, 1) := by decide +kernel
theorem dX8_windSpot_9 : decode cX8_windSpot 9 = .ok (.iload_n 2, 1) := by decide +kernel
theorem dX8_windSpot_10 : decode cX8_windSpot 10 = .ok (.iadd, 1) := by decide +kernel
theorem dX8_windSpot_11 : decode cX8_windSpot 11 = .ok (.bipush 16, 2) := by decide +kernel
theorem dX8_windSpot_13 : decode cX8_windSpot 13 = .ok (.imul, 1) := by decide +kernel
theorem dX8_windSpot_14 : decode cX8_windSpot 14 = .ok (.iadd, 1) := by decide +kernel
theorem dX8_windSpot_15 : decode cX8_windSpot 15 = .ok (.iload_n 3, 1) := by decide +kernel
theorem dX8_windSpot_16 : decode cX8_windSpot 16 = .ok (.iadd, 1) := by decide +kernel
theorem dX8_windSpot_17 : decode cX8_windSpot 17 = .ok (.ireturn, 1) := by decide +kernel
theorem dX8_readWind_0 : decode cX8_readWind 0 = .ok (.aload_n 0, 1) := by decide +kernel
theorem dX8_readWind_1 : decode cX8_readWind 1 = .ok (.iconst 0, 1) := by decide +kernel
theorem dX8_readWind_2 : decode cX8_readWind 2 = .ok (.iconst 2, 1) := by decide +kernel
theorem dX8_readWind_3 : decode cX8_readWind 3 = .ok (.invokevirtual 177, 3) := by decide +kernel
theorem dX8_readWind_6 : decode cX8_readWind 6 = .ok (.istore_n 1, 1) := by decide +kernel
theorem dX8_readWind_7 : decode cX8_readWind 7 = .ok (.aload_n 0, 1) := by decide +kernel
theorem dX8_readWind_8 : decode cX8_readWind 8 = .ok (.iconst 0, 1) := by decide +kernel
theorem dX8_readWind_9 : decode cX8_readWind 9 = .ok (.iconst 5, 1) := by decide +kernel
theorem dX8_readWind_10 : decode cX8_readWind 10 = .ok (.invokevirtual 177, 3) := by decide +kernel
theorem dX8_readWind_13 : decode cX8_readWind 13 = .ok (.istore_n 2, 1) := by decide +kernel
theorem dX8_readWind_14 : decode cX8_readWind 14 = .ok (.aload_n 0, 1) := by decide +kernel
theorem dX8_readWind_15 : decode cX8_readWind 15 = .ok (.invokevirtual 133, 3) := by decide +kernel
theorem dX8_readWind_18 : decode cX8_readWind 18 = .ok (.ifCond .eq 32, 3) := by decide +kernel
theorem dX8_readWind_21 : decode cX8_readWind 21 = .ok (.aload_n 0, 1) := by decide +kernel
theorem dX8_readWind_22 : decode cX8_readWind 22 = .ok (.getfield 27, 3) := by decide +kernel
theorem dX8_readWind_25 : decode cX8_readWind 25 = .ok (.iconst 3, 1) := by decide +kernel
theorem dX8_readWind_26 : decode cX8_readWind 26 = .ok (.if_icmp .ne 24, 3) := by decide +kernel
theorem dX8_readWind_29 : decode cX8_readWind 29 = .ok (.aload_n 0, 1) := by decide +kernel
theorem dX8_readWind_30 : decode cX8_readWind 30 = .ok (.getfield 65, 3) := by decide +kernel
theorem dX8_readWind_33 : decode cX8_readWind 33 = .ok (.aload_n 0, 1) := by decide +kernel
theorem dX8_readWind_34 : decode cX8_readWind 34 = .ok (.getfield 127, 3) := by decide +kernel
theorem dX8_readWind_37 : decode cX8_readWind 37 = .ok (.iaload, 1) := by decide +kernel
theorem dX8_readWind_38 : decode cX8_readWind 38 = .ok (.ifCond .ne 12, 3) := by decide +kernel
theorem dX8_readWind_41 : decode cX8_readWind 41 = .ok (.aload_n 0, 1) := by decide +kernel
theorem dX8_readWind_42 : decode cX8_readWind 42 = .ok (.iconst 3, 1) := by decide +kernel
theorem dX8_readWind_43 : decode cX8_readWind 43 = .ok (.aload_n 0, 1) := by decide +kernel
theorem dX8_readWind_44 : decode cX8_readWind 44 = .ok (.getfield 20, 3) := by decide +kernel
theorem dX8_readWind_47 : decode cX8_readWind 47 = .ok (.invokevirtual 48, 3) := by decide +kernel
theorem dX8_readWind_50 : decode cX8_readWind 50 = .ok (.aload_n 0, 1) := by decide +kernel
theorem dX8_readWind_51 : decode cX8_readWind 51 = .ok (.iconst 0, 1) := by decide +kernel
theorem dX8_readWind_52 : decode cX8_readWind 52 = .ok (.aload_n 0, 1) := by decide +kernel
theorem dX8_readWind_53 : decode cX8_readWind 53 = .ok (.getfield 65, 3) := by decide +kernel
theorem dX8_readWind_56 : decode cX8_readWind 56 = .ok (.aload_n 0, 1) := by decide +kernel
theorem dX8_readWind_57 : decode cX8_readWind 57 = .ok (.getfield 127, 3) := by decide +kernel
theorem dX8_readWind_60 : decode cX8_readWind 60 = .ok (.iaload, 1) := by decide +kernel
theorem dX8_readWind_61 : decode cX8_readWind 61 = .ok (.ifCond .ne 7, 3) := by decide +kernel
theorem dX8_readWind_64 : decode cX8_readWind 64 = .ok (.iconst 0, 1) := by decide +kernel
theorem dX8_readWind_65 : decode cX8_readWind 65 = .ok (.goto 14, 3) := by decide +kernel
theorem dX8_readWind_68 : decode cX8_readWind 68 = .ok (.aload_n 0, 1) := by decide +kernel
theorem dX8_readWind_69 : decode cX8_readWind 69 = .ok (.getfield 65, 3) := by decide +kernel
theorem dX8_readWind_72 : decode cX8_readWind 72 = .ok (.aload_n 0, 1) := by decide +kernel
theorem dX8_readWind_73 : decode cX8_readWind 73 = .ok (.getfield 127, 3) := by decide +kernel
theorem dX8_readWind_76 : decode cX8_readWind 76 = .ok (.iaload, 1) := by decide +kernel
theorem dX8_readWind_77 : decode cX8_readWind 77 = .ok (.iconst 1, 1) := by decide +kernel
theorem dX8_readWind_78 : decode cX8_readWind 78 = .ok (.isub, 1) := by decide +kernel
theorem dX8_readWind_79 : decode cX8_readWind 79 = .ok (.invokevirtual 177, 3) := by decide +kernel
theorem dX8_readWind_82 : decode cX8_readWind 82 = .ok (.istore_n 3, 1) := by decide +kernel
theorem dX8_readWind_83 : decode cX8_readWind 83 = .ok (.aload_n 0, 1) := by decide +kernel
theorem dX8_readWind_84 : decode cX8_readWind 84 = .ok (.getfield 127, 3) := by decide +kernel
theorem dX8_readWind_87 : decode cX8_readWind 87 = .ok (.iload_n 1, 1) := by decide +kernel
theorem dX8_readWind_88 : decode cX8_readWind 88 = .ok (.iload_n 2, 1) := by decide +kernel
theorem dX8_readWind_89 : decode cX8_readWind 89 = .ok (.iload_n 3, 1) := by decide +kernel
theorem dX8_readWind_90 : decode cX8_readWind 90 = .ok (.invokestatic 201, 3) := by decide +kernel
theorem dX8_readWind_93 : decode cX8_readWind 93 = .ok (.istore 4, 2) := by decide +kernel
theorem dX8_readWind_95 : decode cX8_readWind 95 = .ok (.aload_n 0, 1) := by decide +kernel
theorem dX8_readWind_96 : decode cX8_readWind 96 = .ok (.aload_n 0, 1) := by decide +kernel
theorem dX8_readWind_97 : decode cX8_readWind 97 = .ok (.getfield 92, 3) := by decide +kernel
theorem dX8_readWind_100 : decode cX8_readWind 100 = .ok (.iload 4, 2) := by decide +kernel
theorem dX8_readWind_102 : decode cX8_readWind 102 = .ok (.iaload, 1) := by decide +kernel
theorem dX8_readWind_103 : decode cX8_readWind 103 = .ok (.ldc 120, 2) := by decide +kernel
theorem dX8_readWind_105 : decode cX8_readWind 105 = .ok (.if_icmp .eq 7, 3) := by decide +kernel
theorem dX8_readWind_108 : decode cX8_readWind 108 = .ok (.iconst 1, 1) := by decide +kernel
theorem dX8_readWind_109 : decode cX8_readWind 109 = .ok (.goto 4, 3) := by decide +kernel
theorem dX8_readWind_112 : decode cX8_readWind 112 = .ok (.iconst 0, 1) := by decide +kernel
theorem dX8_readWind_113 : decode cX8_readWind 113 = .ok (.invokevirtual 194, 3) := by decide +kernel
theorem dX8_readWind_116 : decode cX8_readWind 116 = .ok (.aload_n 0, 1) := by decide +kernel
theorem dX8_readWind_117 : decode cX8_readWind 117 = .ok (.getfield 92, 3) := by decide +kernel
theorem dX8_readWind_120 : decode cX8_readWind 120 = .ok (.iload 4, 2) := by decide +kernel
theorem dX8_readWind_122 : decode cX8_readWind 122 = .ok (.aload_n 0, 1) := by decide +kernel
theorem dX8_readWind_123 : decode cX8_readWind 123 = .ok (.sipush (-400), 3) := by decide +kernel
theorem dX8_readWind_126 : decode cX8_readWind 126 = .ok (.sipush 400, 3) := by decide +kernel
theorem dX8_readWind_129 : decode cX8_readWind 129 = .ok (.invokevirtual 177, 3) := by decide +kernel
theorem dX8_readWind_132 : decode cX8_readWind 132 = .ok (.iastore, 1) := by decide +kernel
theorem dX8_readWind_133 : decode cX8_readWind 133 = .ok (.return_, 1) := by decide +kernel
theorem dX8_readBurn_0 : decode cX8_readBurn 0 = .ok (.bipush 30, 2) := by decide +kernel
theorem dX8_readBurn_2 : decode cX8_readBurn 2 = .ok (.aload_n 0, 1) := by decide +kernel
theorem dX8_readBurn_3 : decode cX8_readBurn 3 = .ok (.getfield 127, 3) := by decide +kernel
theorem dX8_readBurn_6 : decode cX8_readBurn 6 = .ok (.imul, 1) := by decide +kernel
theorem dX8_readBurn_7 : decode cX8_readBurn 7 = .ok (.iconst 5, 1) := by decide +kernel
theorem dX8_readBurn_8 : decode cX8_readBurn 8 = .ok (.aload_n 0, 1) := by decide +kernel
theorem dX8_readBurn_9 : decode cX8_readBurn 9 = .ok (.iconst 0, 1) := by decide +kernel
theorem dX8_readBurn_10 : decode cX8_readBurn 10 = .ok (.iconst 5, 1) := by decide +kernel
theorem dX8_readBurn_11 : decode cX8_readBurn 11 = .ok (.invokevirtual 177, 3) := by decide +kernel
theorem dX8_readBurn_14 : decode cX8_readBurn 14 = .ok (.imul, 1) := by decide +kernel
theorem dX8_readBurn_15 : decode cX8_readBurn 15 = .ok (.iadd, 1) := by decide +kernel
theorem dX8_readBurn_16 : decode cX8_readBurn 16 = .ok (.istore_n 1, 1) := by decide +kernel
theorem dX8_readBurn_17 : decode cX8_readBurn 17 = .ok (.aload_n 0, 1) := by decide +kernel
theorem dX8_readBurn_18 : decode cX8_readBurn 18 = .ok (.iconst 0, 1) := by decide +kernel
theorem dX8_readBurn_19 : decode cX8_readBurn 19 = .ok (.iconst 4, 1) := by decide +kernel
theorem dX8_readBurn_20 : decode cX8_readBurn 20 = .ok (.invokevirtual 177, 3) := by decide +kernel
theorem dX8_readBurn_23 : decode cX8_readBurn 23 = .ok (.istore_n 2, 1) := by decide +kernel
theorem dX8_readBurn_24 : decode cX8_readBurn 24 = .ok (.aload_n 0, 1) := by decide +kernel
theorem dX8_readBurn_25 : decode cX8_readBurn 25 = .ok (.aload_n 0, 1) := by decide +kernel
theorem dX8_readBurn_26 : decode cX8_readBurn 26 = .ok (.getfield 95, 3) := by decide +kernel
theorem dX8_readBurn_29 : decode cX8_readBurn 29 = .ok (.iload_n 1, 1) := by decide +kernel
theorem dX8_readBurn_30 : decode cX8_readBurn 30 = .ok (.iload_n 2, 1) := by decide +kernel
theorem dX8_readBurn_31 : decode cX8_readBurn 31 = .ok (.iadd, 1) := by decide +kernel
theorem dX8_readBurn_32 : decode cX8_readBurn 32 = .ok (.iaload, 1) := by decide +kernel
theorem dX8_readBurn_33 : decode cX8_readBurn 33 = .ok (.ldc 120, 2) := by decide +kernel
theorem dX8_readBurn_35 : decode cX8_readBurn 35 = .ok (.if_icmp .eq 7, 3) := by decide +kernel
theorem dX8_readBurn_38 : decode cX8_readBurn 38 = .ok (.iconst 1, 1) := by decide +kernel
theorem dX8_readBurn_39 : decode cX8_readBurn 39 = .ok (.goto 4, 3) := by decide +kernel
theorem dX8_readBurn_42 : decode cX8_readBurn 42 = .ok (.iconst 0, 1) := by decide +kernel
theorem dX8_readBurn_43 : decode cX8_readBurn 43 = .ok (.invokevirtual 194, 3) := by decide +kernel
theorem dX8_readBurn_46 : decode cX8_readBurn 46 = .ok (.aload_n 0, 1) := by decide +kernel
theorem dX8_readBurn_47 : decode cX8_readBurn 47 = .ok (.iconst 1, 1) := by decide +kernel
theorem dX8_readBurn_48 : decode cX8_readBurn 48 = .ok (.sipush 9999, 3) := by decide +kernel
theorem dX8_readBurn_51 : decode cX8_readBurn 51 = .ok (.invokevirtual 177, 3) := by decide +kernel
theorem dX8_readBurn_54 : decode cX8_readBurn 54 = .ok (.istore_n 3, 1) := by decide +kernel
theorem dX8_readBurn_55 : decode cX8_readBurn 55 = .ok (.aload_n 0, 1) := by decide +kernel
theorem dX8_readBurn_56 : decode cX8_readBurn 56 = .ok (.invokevirtual 133, 3) := by decide +kernel
theorem dX8_readBurn_59 : decode cX8_readBurn 59 = .ok (.ifCond .ne 4, 3) := by decide +kernel
theorem dX8_readBurn_62 : decode cX8_readBurn 62 = .ok (.return_, 1) := by decide +kernel
theorem dX8_readBurn_63 : decode cX8_readBurn 63 = .ok (.iconst 0, 1) := by decide +kernel
theorem dX8_readBurn_64 : decode cX8_readBurn 64 = .ok (.istore 4, 2) := by decide +kernel
theorem dX8_readBurn_66 : decode cX8_readBurn 66 = .ok (.iconst 0, 1) := by decide +kernel
theorem dX8_readBurn_67 : decode cX8_readBurn 67 = .ok (.istore 5, 2) := by decide +kernel
theorem dX8_readBurn_69 : decode cX8_readBurn 69 = .ok (.iload 5, 2) := by decide +kernel
theorem dX8_readBurn_71 : decode cX8_readBurn 71 = .ok (.iload_n 2, 1) := by decide +kernel
theorem dX8_readBurn_72 : decode cX8_readBurn 72 = .ok (.if_icmp .ge 39, 3) := by decide +kernel
theorem dX8_readBurn_75 : decode cX8_readBurn 75 = .ok (.aload_n 0, 1) := by decide +kernel
theorem dX8_readBurn_76 : decode cX8_readBurn 76 = .ok (.getfield 95, 3) := by decide +kernel
theorem dX8_readBurn_79 : decode cX8_readBurn 79 = .ok (.iload_n 1, 1) := by decide +kernel
theorem dX8_readBurn_80 : decode cX8_readBurn 80 = .ok (.iload 5, 2) := by decide +kernel
theorem dX8_readBurn_82 : decode cX8_readBurn 82 = .ok (.iadd, 1) := by decide +kernel
theorem dX8_readBurn_83 : decode cX8_readBurn 83 = .ok (.iaload, 1) := by decide +kernel
theorem dX8_readBurn_84 : decode cX8_readBurn 84 = .ok (.ldc 120, 2) := by decide +kernel
theorem dX8_readBurn_86 : decode cX8_readBurn 86 = .ok (.if_icmp .ne 8, 3) := by decide +kernel
theorem dX8_readBurn_89 : decode cX8_readBurn 89 = .ok (.iload 4, 2) := by decide +kernel
theorem dX8_readBurn_91 : decode cX8_readBurn 91 = .ok (.goto 12, 3) := by decide +kernel
theorem dX8_readBurn_94 : decode cX8_readBurn 94 = .ok (.aload_n 0, 1) := by decide +kernel
theorem dX8_readBurn_95 : decode cX8_readBurn 95 = .ok (.getfield 95, 3) := by decide +kernel
theorem dX8_readBurn_98 : decode cX8_readBurn 98 = .ok (.iload_n 1, 1) := by decide +kernel
theorem dX8_readBurn_99 : decode cX8_readBurn 99 = .ok (.iload 5, 2) := by decide +kernel
theorem dX8_readBurn_101 : decode cX8_readBurn 101 = .ok (.iadd, 1) := by decide +kernel
theorem dX8_readBurn_102 : decode cX8_readBurn 102 = .ok (.iaload, 1) := by decide +kernel
theorem dX8_readBurn_103 : decode cX8_readBurn 103 = .ok (.istore 4, 2) := by decide +kernel
theorem dX8_readBurn_105 : decode cX8_readBurn 105 = .ok (.iinc 5 1, 3) := by decide +kernel
theorem dX8_readBurn_108 : decode cX8_readBurn 108 = .ok (.goto (-39), 3) := by decide +kernel
theorem dX8_readBurn_111 : decode cX8_readBurn 111 = .ok (.sipush 9999, 3) := by decide +kernel
theorem dX8_readBurn_114 : decode cX8_readBurn 114 = .ok (.istore 5, 2) := by decide +kernel
theorem dX8_readBurn_116 : decode cX8_readBurn 116 = .ok (.iconst 4, 1) := by decide +kernel
theorem dX8_readBurn_117 : decode cX8_readBurn 117 = .ok (.istore 6, 2) := by decide +kernel
theorem dX8_readBurn_119 : decode cX8_readBurn 119 = .ok (.iload 6, 2) := by decide +kernel
theorem dX8_readBurn_121 : decode cX8_readBurn 121 = .ok (.iload_n 2, 1) := by decide +kernel
theorem dX8_readBurn_122 : decode cX8_readBurn 122 = .ok (.if_icmp .le 39, 3) := by decide +kernel
theorem dX8_readBurn_125 : decode cX8_readBurn 125 = .ok (.aload_n 0, 1) := by decide +kernel
theorem dX8_readBurn_126 : decode cX8_readBurn 126 = .ok (.getfield 95, 3) := by decide +kernel
theorem dX8_readBurn_129 : decode cX8_readBurn 129 = .ok (.iload_n 1, 1) := by decide +kernel
theorem dX8_readBurn_130 : decode cX8_readBurn 130 = .ok (.iload 6, 2) := by decide +kernel
theorem dX8_readBurn_132 : decode cX8_readBurn 132 = .ok (.iadd, 1) := by decide +kernel
theorem dX8_readBurn_133 : decode cX8_readBurn 133 = .ok (.iaload, 1) := by decide +kernel
theorem dX8_readBurn_134 : decode cX8_readBurn 134 = .ok (.ldc 120, 2) := by decide +kernel
theorem dX8_readBurn_136 : decode cX8_readBurn 136 = .ok (.if_icmp .ne 8, 3) := by decide +kernel
theorem dX8_readBurn_139 : decode cX8_readBurn 139 = .ok (.iload 5, 2) := by decide +kernel
theorem dX8_readBurn_141 : decode cX8_readBurn 141 = .ok (.goto 12, 3) := by decide +kernel
theorem dX8_readBurn_144 : decode cX8_readBurn 144 = .ok (.aload_n 0, 1) := by decide +kernel
theorem dX8_readBurn_145 : decode cX8_readBurn 145 = .ok (.getfield 95, 3) := by decide +kernel
theorem dX8_readBurn_148 : decode cX8_readBurn 148 = .ok (.iload_n 1, 1) := by decide +kernel
theorem dX8_readBurn_149 : decode cX8_readBurn 149 = .ok (.iload 6, 2) := by decide +kernel
theorem dX8_readBurn_151 : decode cX8_readBurn 151 = .ok (.iadd, 1) := by decide +kernel
theorem dX8_readBurn_152 : decode cX8_readBurn 152 = .ok (.iaload, 1) := by decide +kernel
theorem dX8_readBurn_153 : decode cX8_readBurn 153 = .ok (.istore 5, 2) := by decide +kernel
theorem dX8_readBurn_155 : decode cX8_readBurn 155 = .ok (.iinc 6 (-1), 3) := by decide +kernel
theorem dX8_readBurn_158 : decode cX8_readBurn 158 = .ok (.goto (-39), 3) := by decide +kernel
theorem dX8_readBurn_161 : decode cX8_readBurn 161 = .ok (.iload_n 3, 1) := by decide +kernel
theorem dX8_readBurn_162 : decode cX8_readBurn 162 = .ok (.iload 4, 2) := by decide +kernel
theorem dX8_readBurn_164 : decode cX8_readBurn 164 = .ok (.if_icmp .lt 9, 3) := by decide +kernel
theorem dX8_readBurn_167 : decode cX8_readBurn 167 = .ok (.iload_n 3, 1) := by decide +kernel
theorem dX8_readBurn_168 : decode cX8_readBurn 168 = .ok (.iload 5, 2) := by decide +kernel
theorem dX8_readBurn_170 : decode cX8_readBurn 170 = .ok (.if_icmp .le 12, 3) := by decide +kernel
theorem dX8_readBurn_173 : decode cX8_readBurn 173 = .ok (.aload_n 0, 1) := by decide +kernel
theorem dX8_readBurn_174 : decode cX8_readBurn 174 = .ok (.iconst 5, 1) := by decide +kernel
theorem dX8_readBurn_175 : decode cX8_readBurn 175 = .ok (.aload_n 0, 1) := by decide +kernel
theorem dX8_readBurn_176 : decode cX8_readBurn 176 = .ok (.getfield 144, 3) := by decide +kernel
theorem dX8_readBurn_179 : decode cX8_readBurn 179 = .ok (.invokevirtual 48, 3) := by decide +kernel
theorem dX8_readBurn_182 : decode cX8_readBurn 182 = .ok (.aload_n 0, 1) := by decide +kernel
theorem dX8_readBurn_183 : decode cX8_readBurn 183 = .ok (.getfield 95, 3) := by decide +kernel
theorem dX8_readBurn_186 : decode cX8_readBurn 186 = .ok (.iload_n 1, 1) := by decide +kernel
theorem dX8_readBurn_187 : decode cX8_readBurn 187 = .ok (.iload_n 2, 1) := by decide +kernel
theorem dX8_readBurn_188 : decode cX8_readBurn 188 = .ok (.iadd, 1) := by decide +kernel
theorem dX8_readBurn_189 : decode cX8_readBurn 189 = .ok (.iload_n 3, 1) := by decide +kernel
theorem dX8_readBurn_190 : decode cX8_readBurn 190 = .ok (.iastore, 1) := by decide +kernel
theorem dX8_readBurn_191 : decode cX8_readBurn 191 = .ok (.return_, 1) := by decide +kernel
theorem dX8_fault_0 : decode cX8_fault 0 = .ok (.iload_n 1, 1) := by decide +kernel
theorem dX8_fault_1 : decode cX8_fault 1 = .ok (.ifCond .ne 10, 3) := by decide +kernel
theorem dX8_fault_4 : decode cX8_fault 4 = .ok (.aload_n 0, 1) := by decide +kernel
theorem dX8_fault_5 : decode cX8_fault 5 = .ok (.getfield 11, 3) := by decide +kernel
theorem dX8_fault_8 : decode cX8_fault 8 = .ok (.goto 16, 3) := by decide +kernel
theorem dX8_fault_11 : decode cX8_fault 11 = .ok (.iload_n 1, 1) := by decide +kernel
theorem dX8_fault_12 : decode cX8_fault 12 = .ok (.iconst 1, 1) := by decide +kernel
theorem dX8_fault_13 : decode cX8_fault 13 = .ok (.if_icmp .ne 10, 3) := by decide +kernel
theorem dX8_fault_16 : decode cX8_fault 16 = .ok (.aload_n 0, 1) := by decide +kernel
theorem dX8_fault_17 : decode cX8_fault 17 = .ok (.getfield 14, 3) := by decide +kernel
theorem dX8_fault_20 : decode cX8_fault 20 = .ok (.goto 4, 3) := by decide +kernel
theorem dX8_fault_23 : decode cX8_fault 23 = .ok (.iconst (-1), 1) := by decide +kernel
theorem dX8_fault_24 : decode cX8_fault 24 = .ok (.ireturn, 1) := by decide +kernel
theorem dX8_speed_0 : decode cX8_speed 0 = .ok (.aload_n 0, 1) := by decide +kernel
theorem dX8_speed_1 : decode cX8_speed 1 = .ok (.getfield 89, 3) := by decide +kernel
theorem dX8_speed_4 : decode cX8_speed 4 = .ok (.bipush 6, 2) := by decide +kernel
theorem dX8_speed_6 : decode cX8_speed 6 = .ok (.aload_n 0, 1) := by decide +kernel
theorem dX8_speed_7 : decode cX8_speed 7 = .ok (.getfield 124, 3) := by decide +kernel
theorem dX8_speed_10 : decode cX8_speed 10 = .ok (.imul, 1) := by decide +kernel
theorem dX8_speed_11 : decode cX8_speed 11 = .ok (.iload_n 1, 1) := by decide +kernel
theorem dX8_speed_12 : decode cX8_speed 12 = .ok (.iadd, 1) := by decide +kernel
theorem dX8_speed_13 : decode cX8_speed 13 = .ok (.iaload, 1) := by decide +kernel
theorem dX8_speed_14 : decode cX8_speed 14 = .ok (.ldc 120, 2) := by decide +kernel
theorem dX8_speed_16 : decode cX8_speed 16 = .ok (.if_icmp .ne 9, 3) := by decide +kernel
theorem dX8_speed_19 : decode cX8_speed 19 = .ok (.sipush 400, 3) := by decide +kernel
theorem dX8_speed_22 : decode cX8_speed 22 = .ok (.goto 17, 3) := by decide +kernel
theorem dX8_speed_25 : decode cX8_speed 25 = .ok (.aload_n 0, 1) := by decide +kernel
theorem dX8_speed_26 : decode cX8_speed 26 = .ok (.getfield 89, 3) := by decide +kernel
theorem dX8_speed_29 : decode cX8_speed 29 = .ok (.bipush 6, 2) := by decide +kernel
theorem dX8_speed_31 : decode cX8_speed 31 = .ok (.aload_n 0, 1) := by decide +kernel
theorem dX8_speed_32 : decode cX8_speed 32 = .ok (.getfield 124, 3) := by decide +kernel
theorem dX8_speed_35 : decode cX8_speed 35 = .ok (.imul, 1) := by decide +kernel
theorem dX8_speed_36 : decode cX8_speed 36 = .ok (.iload_n 1, 1) := by decide +kernel
theorem dX8_speed_37 : decode cX8_speed 37 = .ok (.iadd, 1) := by decide +kernel
theorem dX8_speed_38 : decode cX8_speed 38 = .ok (.iaload, 1) := by decide +kernel
theorem dX8_speed_39 : decode cX8_speed 39 = .ok (.ireturn, 1) := by decide +kernel
theorem dX8_wind_0 : decode cX8_wind 0 = .ok (.iload_n 2, 1) := by decide +kernel
theorem dX8_wind_1 : decode cX8_wind 1 = .ok (.istore 4, 2) := by decide +kernel
theorem dX8_wind_3 : decode cX8_wind 3 = .ok (.iload 4, 2) := by decide +kernel
theorem dX8_wind_5 : decode cX8_wind 5 = .ok (.ifCond .lt 30, 3) := by decide +kernel
theorem dX8_wind_8 : decode cX8_wind 8 = .ok (.aload_n 0, 1) := by decide +kernel
theorem dX8_wind_9 : decode cX8_wind 9 = .ok (.getfield 92, 3) := by decide +kernel
theorem dX8_wind_12 : decode cX8_wind 12 = .ok (.aload_n 0, 1) := by decide +kernel
theorem dX8_wind_13 : decode cX8_wind 13 = .ok (.getfield 124, 3) := by decide +kernel
theorem dX8_wind_16 : decode cX8_wind 16 = .ok (.iload_n 1, 1) := by decide +kernel
theorem dX8_wind_17 : decode cX8_wind 17 = .ok (.iload 4, 2) := by decide +kernel
theorem dX8_wind_19 : decode cX8_wind 19 = .ok (.iload_n 3, 1) := by decide +kernel
theorem dX8_wind_20 : decode cX8_wind 20 = .ok (.invokestatic 201, 3) := by decide +kernel
theorem dX8_wind_23 : decode cX8_wind 23 = .ok (.iaload, 1) := by decide +kernel
theorem dX8_wind_24 : decode cX8_wind 24 = .ok (.ldc 120, 2) := by decide +kernel
theorem dX8_wind_26 : decode cX8_wind 26 = .ok (.if_icmp .ne 9, 3) := by decide +kernel
theorem dX8_wind_29 : decode cX8_wind 29 = .ok (.iinc 4 (-1), 3) := by decide +kernel
theorem dX8_wind_32 : decode cX8_wind 32 = .ok (.goto (-29), 3) := by decide +kernel
theorem dX8_wind_35 : decode cX8_wind 35 = .ok (.iload 4, 2) := by decide +kernel
theorem dX8_wind_37 : decode cX8_wind 37 = .ok (.ifCond .ge 7, 3) := by decide +kernel
theorem dX8_wind_40 : decode cX8_wind 40 = .ok (.iconst 0, 1) := by decide +kernel
theorem dX8_wind_41 : decode cX8_wind 41 = .ok (.goto 19, 3) := by decide +kernel
theorem dX8_wind_44 : decode cX8_wind 44 = .ok (.aload_n 0, 1) := by decide +kernel
theorem dX8_wind_45 : decode cX8_wind 45 = .ok (.getfield 92, 3) := by decide +kernel
theorem dX8_wind_48 : decode cX8_wind 48 = .ok (.aload_n 0, 1) := by decide +kernel
theorem dX8_wind_49 : decode cX8_wind 49 = .ok (.getfield 124, 3) := by decide +kernel
theorem dX8_wind_52 : decode cX8_wind 52 = .ok (.iload_n 1, 1) := by decide +kernel
theorem dX8_wind_53 : decode cX8_wind 53 = .ok (.iload 4, 2) := by decide +kernel
