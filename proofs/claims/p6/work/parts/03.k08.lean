theorem dX8_seek_5 : decode cX8_seek 5 = .ok (.aload_n 0, 1) := by decide +kernel
theorem dX8_seek_6 : decode cX8_seek 6 = .ok (.getfield 140, 3) := by decide +kernel
theorem dX8_seek_9 : decode cX8_seek 9 = .ok (.ifCond .eq 10, 3) := by decide +kernel
theorem dX8_seek_12 : decode cX8_seek 12 = .ok (.iload_n 1, 1) := by decide +kernel
theorem dX8_seek_13 : decode cX8_seek 13 = .ok (.invokestatic 211, 3) := by decide +kernel
theorem dX8_seek_16 : decode cX8_seek 16 = .ok (.ifCond .ne 5, 3) := by decide +kernel
theorem dX8_seek_19 : decode cX8_seek 19 = .ok (.iconst 0, 1) := by decide +kernel
theorem dX8_seek_20 : decode cX8_seek 20 = .ok (.ireturn, 1) := by decide +kernel
theorem dX8_seek_21 : decode cX8_seek 21 = .ok (.aload_n 0, 1) := by decide +kernel
theorem dX8_seek_22 : decode cX8_seek 22 = .ok (.iload_n 1, 1) := by decide +kernel
theorem dX8_seek_23 : decode cX8_seek 23 = .ok (.aload_n 0, 1) := by decide +kernel
theorem dX8_seek_24 : decode cX8_seek 24 = .ok (.getfield 236, 3) := by decide +kernel
theorem dX8_seek_27 : decode cX8_seek 27 = .ok (.invokevirtual 268, 3) := by decide +kernel
theorem dX8_seek_30 : decode cX8_seek 30 = .ok (.aload_n 0, 1) := by decide +kernel
theorem dX8_seek_31 : decode cX8_seek 31 = .ok (.aload_n 0, 1) := by decide +kernel
theorem dX8_seek_32 : decode cX8_seek 32 = .ok (.aload_n 0, 1) := by decide +kernel
theorem dX8_seek_33 : decode cX8_seek 33 = .ok (.getfield 233, 3) := by decide +kernel
theorem dX8_seek_36 : decode cX8_seek 36 = .ok (.iconst (-1), 1) := by decide +kernel
theorem dX8_seek_37 : decode cX8_seek 37 = .ok (.invokevirtual 262, 3) := by decide +kernel
theorem dX8_seek_40 : decode cX8_seek 40 = .ok (.putfield 271, 3) := by decide +kernel
theorem dX8_seek_43 : decode cX8_seek 43 = .ok (.aload_n 0, 1) := by decide +kernel
theorem dX8_seek_44 : decode cX8_seek 44 = .ok (.getfield 271, 3) := by decide +kernel
theorem dX8_seek_47 : decode cX8_seek 47 = .ok (.ldc_w 258, 3) := by decide +kernel
theorem dX8_seek_50 : decode cX8_seek 50 = .ok (.if_icmp .ne 5, 3) := by decide +kernel
theorem dX8_seek_53 : decode cX8_seek 53 = .ok (.iconst 0, 1) := by decide +kernel
theorem dX8_seek_54 : decode cX8_seek 54 = .ok (.ireturn, 1) := by decide +kernel
theorem dX8_seek_55 : decode cX8_seek 55 = .ok (.aload_n 0, 1) := by decide +kernel
theorem dX8_seek_56 : decode cX8_seek 56 = .ok (.getfield 233, 3) := by decide +kernel
theorem dX8_seek_59 : decode cX8_seek 59 = .ok (.istore_n 2, 1) := by decide +kernel
theorem dX8_seek_60 : decode cX8_seek 60 = .ok (.iconst (-1), 1) := by decide +kernel
theorem dX8_seek_61 : decode cX8_seek 61 = .ok (.istore_n 3, 1) := by decide +kernel
theorem dX8_seek_62 : decode cX8_seek 62 = .ok (.iload_n 2, 1) := by decide +kernel
theorem dX8_seek_63 : decode cX8_seek 63 = .ok (.aload_n 0, 1) := by decide +kernel
theorem dX8_seek_64 : decode cX8_seek 64 = .ok (.getfield 236, 3) := by decide +kernel
theorem dX8_seek_67 : decode cX8_seek 67 = .ok (.if_icmp .eq 144, 3) := by decide +kernel
theorem dX8_seek_70 : decode cX8_seek 70 = .ok (.aload_n 0, 1) := by decide +kernel
theorem dX8_seek_71 : decode cX8_seek 71 = .ok (.iload_n 2, 1) := by decide +kernel
theorem dX8_seek_72 : decode cX8_seek 72 = .ok (.iload_n 3, 1) := by decide +kernel
theorem dX8_seek_73 : decode cX8_seek 73 = .ok (.invokevirtual 262, 3) := by decide +kernel
theorem dX8_seek_76 : decode cX8_seek 76 = .ok (.istore 4, 2) := by decide +kernel
theorem dX8_seek_78 : decode cX8_seek 78 = .ok (.iconst 0, 1) := by decide +kernel
theorem dX8_seek_79 : decode cX8_seek 79 = .ok (.istore 5, 2) := by decide +kernel
theorem dX8_seek_81 : decode cX8_seek 81 = .ok (.aload_n 0, 1) := by decide +kernel
theorem dX8_seek_82 : decode cX8_seek 82 = .ok (.getfield 68, 3) := by decide +kernel
theorem dX8_seek_85 : decode cX8_seek 85 = .ok (.bipush 16, 2) := by decide +kernel
theorem dX8_seek_87 : decode cX8_seek 87 = .ok (.aload_n 0, 1) := by decide +kernel
theorem dX8_seek_88 : decode cX8_seek 88 = .ok (.getfield 124, 3) := by decide +kernel
theorem dX8_seek_91 : decode cX8_seek 91 = .ok (.imul, 1) := by decide +kernel
theorem dX8_seek_92 : decode cX8_seek 92 = .ok (.iload 5, 2) := by decide +kernel
theorem dX8_seek_94 : decode cX8_seek 94 = .ok (.bipush 6, 2) := by decide +kernel
theorem dX8_seek_96 : decode cX8_seek 96 = .ok (.idiv, 1) := by decide +kernel
theorem dX8_seek_97 : decode cX8_seek 97 = .ok (.iadd, 1) := by decide +kernel
theorem dX8_seek_98 : decode cX8_seek 98 = .ok (.iaload, 1) := by decide +kernel
theorem dX8_seek_99 : decode cX8_seek 99 = .ok (.iload_n 2, 1) := by decide +kernel
theorem dX8_seek_100 : decode cX8_seek 100 = .ok (.if_icmp .ne 39, 3) := by decide +kernel
theorem dX8_seek_103 : decode cX8_seek 103 = .ok (.aload_n 0, 1) := by decide +kernel
theorem dX8_seek_104 : decode cX8_seek 104 = .ok (.getfield 104, 3) := by decide +kernel
theorem dX8_seek_107 : decode cX8_seek 107 = .ok (.iload 5, 2) := by decide +kernel
theorem dX8_seek_109 : decode cX8_seek 109 = .ok (.iaload, 1) := by decide +kernel
theorem dX8_seek_110 : decode cX8_seek 110 = .ok (.ldc_w 258, 3) := by decide +kernel
theorem dX8_seek_113 : decode cX8_seek 113 = .ok (.if_icmp .eq 26, 3) := by decide +kernel
theorem dX8_seek_116 : decode cX8_seek 116 = .ok (.aload_n 0, 1) := by decide +kernel
theorem dX8_seek_117 : decode cX8_seek 117 = .ok (.iload_n 3, 1) := by decide +kernel
theorem dX8_seek_118 : decode cX8_seek 118 = .ok (.iload 5, 2) := by decide +kernel
theorem dX8_seek_120 : decode cX8_seek 120 = .ok (.bipush 6, 2) := by decide +kernel
theorem dX8_seek_122 : decode cX8_seek 122 = .ok (.irem, 1) := by decide +kernel
theorem dX8_seek_123 : decode cX8_seek 123 = .ok (.invokevirtual 259, 3) := by decide +kernel
theorem dX8_seek_126 : decode cX8_seek 126 = .ok (.aload_n 0, 1) := by decide +kernel
theorem dX8_seek_127 : decode cX8_seek 127 = .ok (.getfield 104, 3) := by decide +kernel
theorem dX8_seek_130 : decode cX8_seek 130 = .ok (.iload 5, 2) := by decide +kernel
theorem dX8_seek_132 : decode cX8_seek 132 = .ok (.iaload, 1) := by decide +kernel
theorem dX8_seek_133 : decode cX8_seek 133 = .ok (.iadd, 1) := by decide +kernel
theorem dX8_seek_134 : decode cX8_seek 134 = .ok (.iload 4, 2) := by decide +kernel
theorem dX8_seek_136 : decode cX8_seek 136 = .ok (.if_icmp .eq 9, 3) := by decide +kernel
theorem dX8_seek_139 : decode cX8_seek 139 = .ok (.iinc 5 1, 3) := by decide +kernel
theorem dX8_seek_142 : decode cX8_seek 142 = .ok (.goto (-61), 3) := by decide +kernel
theorem dX8_seek_145 : decode cX8_seek 145 = .ok (.aload_n 0, 1) := by decide +kernel
theorem dX8_seek_146 : decode cX8_seek 146 = .ok (.getfield 107, 3) := by decide +kernel
theorem dX8_seek_149 : decode cX8_seek 149 = .ok (.aload_n 0, 1) := by decide +kernel
theorem dX8_seek_150 : decode cX8_seek 150 = .ok (.getfield 265, 3) := by decide +kernel
theorem dX8_seek_153 : decode cX8_seek 153 = .ok (.iload 5, 2) := by decide +kernel
theorem dX8_seek_155 : decode cX8_seek 155 = .ok (.bipush 6, 2) := by decide +kernel
theorem dX8_seek_157 : decode cX8_seek 157 = .ok (.idiv, 1) := by decide +kernel
theorem dX8_seek_158 : decode cX8_seek 158 = .ok (.iastore, 1) := by decide +kernel
theorem dX8_seek_159 : decode cX8_seek 159 = .ok (.aload_n 0, 1) := by decide +kernel
theorem dX8_seek_160 : decode cX8_seek 160 = .ok (.getfield 110, 3) := by decide +kernel
theorem dX8_seek_163 : decode cX8_seek 163 = .ok (.aload_n 0, 1) := by decide +kernel
theorem dX8_seek_164 : decode cX8_seek 164 = .ok (.getfield 265, 3) := by decide +kernel
theorem dX8_seek_167 : decode cX8_seek 167 = .ok (.iload 5, 2) := by decide +kernel
theorem dX8_seek_169 : decode cX8_seek 169 = .ok (.bipush 6, 2) := by decide +kernel
theorem dX8_seek_171 : decode cX8_seek 171 = .ok (.irem, 1) := by decide +kernel
theorem dX8_seek_172 : decode cX8_seek 172 = .ok (.iastore, 1) := by decide +kernel
theorem dX8_seek_173 : decode cX8_seek 173 = .ok (.aload_n 0, 1) := by decide +kernel
theorem dX8_seek_174 : decode cX8_seek 174 = .ok (.dup, 1) := by decide +kernel
theorem dX8_seek_175 : decode cX8_seek 175 = .ok (.getfield 265, 3) := by decide +kernel
theorem dX8_seek_178 : decode cX8_seek 178 = .ok (.iconst 1, 1) := by decide +kernel
theorem dX8_seek_179 : decode cX8_seek 179 = .ok (.iadd, 1) := by decide +kernel
theorem dX8_seek_180 : decode cX8_seek 180 = .ok (.putfield 265, 3) := by decide +kernel
theorem dX8_seek_183 : decode cX8_seek 183 = .ok (.iload 5, 2) := by decide +kernel
theorem dX8_seek_185 : decode cX8_seek 185 = .ok (.bipush 6, 2) := by decide +kernel
theorem dX8_seek_187 : decode cX8_seek 187 = .ok (.irem, 1) := by decide +kernel
theorem dX8_seek_188 : decode cX8_seek 188 = .ok (.istore_n 3, 1) := by decide +kernel
theorem dX8_seek_189 : decode cX8_seek 189 = .ok (.aload_n 0, 1) := by decide +kernel
theorem dX8_seek_190 : decode cX8_seek 190 = .ok (.getfield 71, 3) := by decide +kernel
theorem dX8_seek_193 : decode cX8_seek 193 = .ok (.bipush 16, 2) := by decide +kernel
theorem dX8_seek_195 : decode cX8_seek 195 = .ok (.aload_n 0, 1) := by decide +kernel
theorem dX8_seek_196 : decode cX8_seek 196 = .ok (.getfield 124, 3) := by decide +kernel
theorem dX8_seek_199 : decode cX8_seek 199 = .ok (.imul, 1) := by decide +kernel
theorem dX8_seek_200 : decode cX8_seek 200 = .ok (.iload 5, 2) := by decide +kernel
theorem dX8_seek_202 : decode cX8_seek 202 = .ok (.bipush 6, 2) := by decide +kernel
theorem dX8_seek_204 : decode cX8_seek 204 = .ok (.idiv, 1) := by decide +kernel
theorem dX8_seek_205 : decode cX8_seek 205 = .ok (.iadd, 1) := by decide +kernel
theorem dX8_seek_206 : decode cX8_seek 206 = .ok (.iaload, 1) := by decide +kernel
theorem dX8_seek_207 : decode cX8_seek 207 = .ok (.istore_n 2, 1) := by decide +kernel
theorem dX8_seek_208 : decode cX8_seek 208 = .ok (.goto (-146), 3) := by decide +kernel
theorem dX8_seek_211 : decode cX8_seek 211 = .ok (.iconst 1, 1) := by decide +kernel
theorem dX8_seek_212 : decode cX8_seek 212 = .ok (.ireturn, 1) := by decide +kernel
theorem dX8_need_0 : decode cX8_need 0 = .ok (.aload_n 0, 1) := by decide +kernel
theorem dX8_need_1 : decode cX8_need 1 = .ok (.iload_n 1, 1) := by decide +kernel
theorem dX8_need_2 : decode cX8_need 2 = .ok (.invokevirtual 274, 3) := by decide +kernel
theorem dX8_need_5 : decode cX8_need 5 = .ok (.ifCond .eq 10, 3) := by decide +kernel
theorem dX8_need_8 : decode cX8_need 8 = .ok (.aload_n 0, 1) := by decide +kernel
theorem dX8_need_9 : decode cX8_need 9 = .ok (.getfield 271, 3) := by decide +kernel
theorem dX8_need_12 : decode cX8_need 12 = .ok (.goto 4, 3) := by decide +kernel
theorem dX8_need_15 : decode cX8_need 15 = .ok (.iconst (-1), 1) := by decide +kernel
theorem dX8_need_16 : decode cX8_need 16 = .ok (.ireturn, 1) := by decide +kernel
theorem dX8_legs_0 : decode cX8_legs 0 = .ok (.aload_n 0, 1) := by decide +kernel
theorem dX8_legs_1 : decode cX8_legs 1 = .ok (.iload_n 1, 1) := by decide +kernel
theorem dX8_legs_2 : decode cX8_legs 2 = .ok (.invokevirtual 274, 3) := by decide +kernel
theorem dX8_legs_5 : decode cX8_legs 5 = .ok (.ifCond .eq 10, 3) := by decide +kernel
theorem dX8_legs_8 : decode cX8_legs 8 = .ok (.aload_n 0, 1) := by decide +kernel
theorem dX8_legs_9 : decode cX8_legs 9 = .ok (.getfield 265, 3) := by decide +kernel
theorem dX8_legs_12 : decode cX8_legs 12 = .ok (.goto 4, 3) := by decide +kernel
theorem dX8_legs_15 : decode cX8_legs 15 = .ok (.iconst (-1), 1) := by decide +kernel
theorem dX8_legs_16 : decode cX8_legs 16 = .ok (.ireturn, 1) := by decide +kernel
theorem dX8_needAlong_0 : decode cX8_needAlong 0 = .ok (.iload_n 3, 1) := by decide +kernel
theorem dX8_needAlong_1 : decode cX8_needAlong 1 = .ok (.istore 4, 2) := by decide +kernel
theorem dX8_needAlong_3 : decode cX8_needAlong 3 = .ok (.aload_n 0, 1) := by decide +kernel
theorem dX8_needAlong_4 : decode cX8_needAlong 4 = .ok (.getfield 265, 3) := by decide +kernel
theorem dX8_needAlong_7 : decode cX8_needAlong 7 = .ok (.iconst 1, 1) := by decide +kernel
theorem dX8_needAlong_8 : decode cX8_needAlong 8 = .ok (.isub, 1) := by decide +kernel
theorem dX8_needAlong_9 : decode cX8_needAlong 9 = .ok (.istore 5, 2) := by decide +kernel
theorem dX8_needAlong_11 : decode cX8_needAlong 11 = .ok (.iload 5, 2) := by decide +kernel
theorem dX8_needAlong_13 : decode cX8_needAlong 13 = .ok (.iload_n 2, 1) := by decide +kernel
theorem dX8_needAlong_14 : decode cX8_needAlong 14 = .ok (.if_icmp .lt 89, 3) := by decide +kernel
theorem dX8_needAlong_17 : decode cX8_needAlong 17 = .ok (.aload_n 0, 1) := by decide +kernel
theorem dX8_needAlong_18 : decode cX8_needAlong 18 = .ok (.aload_n 0, 1) := by decide +kernel
theorem dX8_needAlong_19 : decode cX8_needAlong 19 = .ok (.getfield 107, 3) := by decide +kernel
theorem dX8_needAlong_22 : decode cX8_needAlong 22 = .ok (.iload 5, 2) := by decide +kernel
theorem dX8_needAlong_24 : decode cX8_needAlong 24 = .ok (.iaload, 1) := by decide +kernel
theorem dX8_needAlong_25 : decode cX8_needAlong 25 = .ok (.aload_n 0, 1) := by decide +kernel
theorem dX8_needAlong_26 : decode cX8_needAlong 26 = .ok (.getfield 110, 3) := by decide +kernel
theorem dX8_needAlong_29 : decode cX8_needAlong 29 = .ok (.iload 5, 2) := by decide +kernel
theorem dX8_needAlong_31 : decode cX8_needAlong 31 = .ok (.iaload, 1) := by decide +kernel
theorem dX8_needAlong_32 : decode cX8_needAlong 32 = .ok (.iload_n 1, 1) := by decide +kernel
theorem dX8_needAlong_33 : decode cX8_needAlong 33 = .ok (.invokevirtual 252, 3) := by decide +kernel
theorem dX8_needAlong_36 : decode cX8_needAlong 36 = .ok (.istore 6, 2) := by decide +kernel
theorem dX8_needAlong_38 : decode cX8_needAlong 38 = .ok (.iload 6, 2) := by decide +kernel
theorem dX8_needAlong_40 : decode cX8_needAlong 40 = .ok (.ifCond .ge 7, 3) := by decide +kernel
theorem dX8_needAlong_43 : decode cX8_needAlong 43 = .ok (.ldc_w 258, 3) := by decide +kernel
theorem dX8_needAlong_46 : decode cX8_needAlong 46 = .ok (.ireturn, 1) := by decide +kernel
theorem dX8_needAlong_47 : decode cX8_needAlong 47 = .ok (.iload 4, 2) := by decide +kernel
theorem dX8_needAlong_49 : decode cX8_needAlong 49 = .ok (.aload_n 0, 1) := by decide +kernel
theorem dX8_needAlong_50 : decode cX8_needAlong 50 = .ok (.iload 6, 2) := by decide +kernel
theorem dX8_needAlong_52 : decode cX8_needAlong 52 = .ok (.aload_n 0, 1) := by decide +kernel
theorem dX8_needAlong_53 : decode cX8_needAlong 53 = .ok (.getfield 110, 3) := by decide +kernel
theorem dX8_needAlong_56 : decode cX8_needAlong 56 = .ok (.iload 5, 2) := by decide +kernel
theorem dX8_needAlong_58 : decode cX8_needAlong 58 = .ok (.iaload, 1) := by decide +kernel
theorem dX8_needAlong_59 : decode cX8_needAlong 59 = .ok (.iload 4, 2) := by decide +kernel
theorem dX8_needAlong_61 : decode cX8_needAlong 61 = .ok (.invokevirtual 255, 3) := by decide +kernel
theorem dX8_needAlong_64 : decode cX8_needAlong 64 = .ok (.aload_n 0, 1) := by decide +kernel
theorem dX8_needAlong_65 : decode cX8_needAlong 65 = .ok (.iload 5, 2) := by decide +kernel
theorem dX8_needAlong_67 : decode cX8_needAlong 67 = .ok (.ifCond .ne 7, 3) := by decide +kernel
theorem dX8_needAlong_70 : decode cX8_needAlong 70 = .ok (.iconst (-1), 1) := by decide +kernel
theorem dX8_needAlong_71 : decode cX8_needAlong 71 = .ok (.goto 12, 3) := by decide +kernel
theorem dX8_needAlong_74 : decode cX8_needAlong 74 = .ok (.aload_n 0, 1) := by decide +kernel
theorem dX8_needAlong_75 : decode cX8_needAlong 75 = .ok (.getfield 110, 3) := by decide +kernel
theorem dX8_needAlong_78 : decode cX8_needAlong 78 = .ok (.iload 5, 2) := by decide +kernel
theorem dX8_needAlong_80 : decode cX8_needAlong 80 = .ok (.iconst 1, 1) := by decide +kernel
theorem dX8_needAlong_81 : decode cX8_needAlong 81 = .ok (.isub, 1) := by decide +kernel
theorem dX8_needAlong_82 : decode cX8_needAlong 82 = .ok (.iaload, 1) := by decide +kernel
theorem dX8_needAlong_83 : decode cX8_needAlong 83 = .ok (.aload_n 0, 1) := by decide +kernel
theorem dX8_needAlong_84 : decode cX8_needAlong 84 = .ok (.getfield 110, 3) := by decide +kernel
theorem dX8_needAlong_87 : decode cX8_needAlong 87 = .ok (.iload 5, 2) := by decide +kernel
theorem dX8_needAlong_89 : decode cX8_needAlong 89 = .ok (.iaload, 1) := by decide +kernel
theorem dX8_needAlong_90 : decode cX8_needAlong 90 = .ok (.invokevirtual 259, 3) := by decide +kernel
theorem dX8_needAlong_93 : decode cX8_needAlong 93 = .ok (.iadd, 1) := by decide +kernel
theorem dX8_needAlong_94 : decode cX8_needAlong 94 = .ok (.iadd, 1) := by decide +kernel
theorem dX8_needAlong_95 : decode cX8_needAlong 95 = .ok (.istore 4, 2) := by decide +kernel
theorem dX8_needAlong_97 : decode cX8_needAlong 97 = .ok (.iinc 5 (-1), 3) := by decide +kernel
theorem dX8_needAlong_100 : decode cX8_needAlong 100 = .ok (.goto (-89), 3) := by decide +kernel
theorem dX8_needAlong_103 : decode cX8_needAlong 103 = .ok (.iload 4, 2) := by decide +kernel
theorem dX8_needAlong_105 : decode cX8_needAlong 105 = .ok (.ireturn, 1) := by decide +kernel
theorem dX8_leg_0 : decode cX8_leg 0 = .ok (.aload_n 0, 1) := by decide +kernel
theorem dX8_leg_1 : decode cX8_leg 1 = .ok (.iload_n 1, 1) := by decide +kernel
theorem dX8_leg_2 : decode cX8_leg 2 = .ok (.invokevirtual 274, 3) := by decide +kernel
theorem dX8_leg_5 : decode cX8_leg 5 = .ok (.ifCond .eq 15, 3) := by decide +kernel
theorem dX8_leg_8 : decode cX8_leg 8 = .ok (.iload_n 2, 1) := by decide +kernel
theorem dX8_leg_9 : decode cX8_leg 9 = .ok (.ifCond .lt 11, 3) := by decide +kernel
theorem dX8_leg_12 : decode cX8_leg 12 = .ok (.iload_n 2, 1) := by decide +kernel
theorem dX8_leg_13 : decode cX8_leg 13 = .ok (.aload_n 0, 1) := by decide +kernel
theorem dX8_leg_14 : decode cX8_leg 14 = .ok (.getfield 265, 3) := by decide +kernel
theorem dX8_leg_17 : decode cX8_leg 17 = .ok (.if_icmp .lt 5, 3) := by decide +kernel
theorem dX8_leg_20 : decode cX8_leg 20 = .ok (.iconst (-1), 1) := by decide +kernel
theorem dX8_leg_21 : decode cX8_leg 21 = .ok (.ireturn, 1) := by decide +kernel
theorem dX8_leg_22 : decode cX8_leg 22 = .ok (.aload_n 0, 1) := by decide +kernel
theorem dX8_leg_23 : decode cX8_leg 23 = .ok (.aload_n 0, 1) := by decide +kernel
theorem dX8_leg_24 : decode cX8_leg 24 = .ok (.getfield 107, 3) := by decide +kernel
theorem dX8_leg_27 : decode cX8_leg 27 = .ok (.iload_n 2, 1) := by decide +kernel
theorem dX8_leg_28 : decode cX8_leg 28 = .ok (.iaload, 1) := by decide +kernel
theorem dX8_leg_29 : decode cX8_leg 29 = .ok (.aload_n 0, 1) := by decide +kernel
theorem dX8_leg_30 : decode cX8_leg 30 = .ok (.getfield 110, 3) := by decide +kernel
theorem dX8_leg_33 : decode cX8_leg 33 = .ok (.iload_n 2, 1) := by decide +kernel
theorem dX8_leg_34 : decode cX8_leg 34 = .ok (.iaload, 1) := by decide +kernel
theorem dX8_leg_35 : decode cX8_leg 35 = .ok (.iload_n 1, 1) := by decide +kernel
theorem dX8_leg_36 : decode cX8_leg 36 = .ok (.invokevirtual 252, 3) := by decide +kernel
theorem dX8_leg_39 : decode cX8_leg 39 = .ok (.istore 4, 2) := by decide +kernel
theorem dX8_leg_41 : decode cX8_leg 41 = .ok (.iload_n 3, 1) := by decide +kernel
theorem dX8_leg_42 : decode cX8_leg 42 = .ok (.tableswitch 72 0 3 #[30, 37, 44, 47], 30) := by decide +kernel
theorem dX8_leg_72 : decode cX8_leg 72 = .ok (.aload_n 0, 1) := by decide +kernel
theorem dX8_leg_73 : decode cX8_leg 73 = .ok (.getfield 107, 3) := by decide +kernel
theorem dX8_leg_76 : decode cX8_leg 76 = .ok (.iload_n 2, 1) := by decide +kernel
theorem dX8_leg_77 : decode cX8_leg 77 = .ok (.iaload, 1) := by decide +kernel
theorem dX8_leg_78 : decode cX8_leg 78 = .ok (.ireturn, 1) := by decide +kernel
theorem dX8_leg_79 : decode cX8_leg 79 = .ok (.aload_n 0, 1) := by decide +kernel
theorem dX8_leg_80 : decode cX8_leg 80 = .ok (.getfield 110, 3) := by decide +kernel
theorem dX8_leg_83 : decode cX8_leg 83 = .ok (.iload_n 2, 1) := by decide +kernel
theorem dX8_leg_84 : decode cX8_leg 84 = .ok (.iaload, 1) := by decide +kernel
theorem dX8_leg_85 : decode cX8_leg 85 = .ok (.ireturn, 1) := by decide +kernel
theorem dX8_leg_86 : decode cX8_leg 86 = .ok (.iload 4, 2) := by decide +kernel
theorem dX8_leg_88 : decode cX8_leg 88 = .ok (.ireturn, 1) := by decide +kernel
theorem dX8_leg_89 : decode cX8_leg 89 = .ok (.aload_n 0, 1) := by decide +kernel
theorem dX8_leg_90 : decode cX8_leg 90 = .ok (.iload 4, 2) := by decide +kernel
theorem dX8_leg_92 : decode cX8_leg 92 = .ok (.aload_n 0, 1) := by decide +kernel
theorem dX8_leg_93 : decode cX8_leg 93 = .ok (.getfield 110, 3) := by decide +kernel
theorem dX8_leg_96 : decode cX8_leg 96 = .ok (.iload_n 2, 1) := by decide +kernel
theorem dX8_leg_97 : decode cX8_leg 97 = .ok (.iaload, 1) := by decide +kernel
theorem dX8_leg_98 : decode cX8_leg 98 = .ok (.aload_n 0, 1) := by decide +kernel
theorem dX8_leg_99 : decode cX8_leg 99 = .ok (.iload_n 1, 1) := by decide +kernel
theorem dX8_leg_100 : decode cX8_leg 100 = .ok (.iload_n 2, 1) := by decide +kernel
theorem dX8_leg_101 : decode cX8_leg 101 = .ok (.iconst 1, 1) := by decide +kernel
theorem dX8_leg_102 : decode cX8_leg 102 = .ok (.iadd, 1) := by decide +kernel
theorem dX8_leg_103 : decode cX8_leg 103 = .ok (.aload_n 0, 1) := by decide +kernel
theorem dX8_leg_104 : decode cX8_leg 104 = .ok (.getfield 245, 3) := by decide +kernel
theorem dX8_leg_107 : decode cX8_leg 107 = .ok (.invokevirtual 277, 3) := by decide +kernel
theorem dX8_leg_110 : decode cX8_leg 110 = .ok (.invokevirtual 255, 3) := by decide +kernel
theorem dX8_leg_113 : decode cX8_leg 113 = .ok (.ireturn, 1) := by decide +kernel
theorem dX8_leg_114 : decode cX8_leg 114 = .ok (.iconst (-1), 1) := by decide +kernel
theorem dX8_leg_115 : decode cX8_leg 115 = .ok (.ireturn, 1) := by decide +kernel
theorem dX8_time_0 : decode cX8_time 0 = .ok (.aload_n 0, 1) := by decide +kernel
theorem dX8_time_1 : decode cX8_time 1 = .ok (.iload_n 1, 1) := by decide +kernel
theorem dX8_time_2 : decode cX8_time 2 = .ok (.invokevirtual 274, 3) := by decide +kernel
theorem dX8_time_5 : decode cX8_time 5 = .ok (.ifCond .ne 5, 3) := by decide +kernel
theorem dX8_time_8 : decode cX8_time 8 = .ok (.iconst (-1), 1) := by decide +kernel
theorem dX8_time_9 : decode cX8_time 9 = .ok (.ireturn, 1) := by decide +kernel
theorem dX8_time_10 : decode cX8_time 10 = .ok (.iconst 0, 1) := by decide +kernel
theorem dX8_time_11 : decode cX8_time 11 = .ok (.istore_n 2, 1) := by decide +kernel
theorem dX8_time_12 : decode cX8_time 12 = .ok (.iconst 0, 1) := by decide +kernel
theorem dX8_time_13 : decode cX8_time 13 = .ok (.istore_n 3, 1) := by decide +kernel
theorem dX8_time_14 : decode cX8_time 14 = .ok (.iload_n 3, 1) := by decide +kernel
theorem dX8_time_15 : decode cX8_time 15 = .ok (.aload_n 0, 1) := by decide +kernel
theorem dX8_time_16 : decode cX8_time 16 = .ok (.getfield 265, 3) := by decide +kernel
theorem dX8_time_19 : decode cX8_time 19 = .ok (.if_icmp .ge 29, 3) := by decide +kernel
theorem dX8_time_22 : decode cX8_time 22 = .ok (.iload_n 2, 1) := by decide +kernel
theorem dX8_time_23 : decode cX8_time 23 = .ok (.aload_n 0, 1) := by decide +kernel
theorem dX8_time_24 : decode cX8_time 24 = .ok (.aload_n 0, 1) := by decide +kernel
theorem dX8_time_25 : decode cX8_time 25 = .ok (.getfield 107, 3) := by decide +kernel
theorem dX8_time_28 : decode cX8_time 28 = .ok (.iload_n 3, 1) := by decide +kernel
theorem dX8_time_29 : decode cX8_time 29 = .ok (.iaload, 1) := by decide +kernel
theorem dX8_time_30 : decode cX8_time 30 = .ok (.aload_n 0, 1) := by decide +kernel
theorem dX8_time_31 : decode cX8_time 31 = .ok (.getfield 110, 3) := by decide +kernel
theorem dX8_time_34 : decode cX8_time 34 = .ok (.iload_n 3, 1) := by decide +kernel
theorem dX8_time_35 : decode cX8_time 35 = .ok (.iaload, 1) := by decide +kernel
theorem dX8_time_36 : decode cX8_time 36 = .ok (.iload_n 1, 1) := by decide +kernel
theorem dX8_time_37 : decode cX8_time 37 = .ok (.invokevirtual 252, 3) := by decide +kernel
theorem dX8_time_40 : decode cX8_time 40 = .ok (.iadd, 1) := by decide +kernel
theorem dX8_time_41 : decode cX8_time 41 = .ok (.istore_n 2, 1) := by decide +kernel
theorem dX8_time_42 : decode cX8_time 42 = .ok (.iinc 3 1, 3) := by decide +kernel
theorem dX8_time_45 : decode cX8_time 45 = .ok (.goto (-31), 3) := by decide +kernel
theorem dX8_time_48 : decode cX8_time 48 = .ok (.iload_n 2, 1) := by decide +kernel
theorem dX8_time_49 : decode cX8_time 49 = .ok (.ireturn, 1) := by decide +kernel
theorem dX8_breaks_0 : decode cX8_breaks 0 = .ok (.aload_n 0, 1) := by decide +kernel
theorem dX8_breaks_1 : decode cX8_breaks 1 = .ok (.iconst 3, 1) := by decide +kernel
theorem dX8_breaks_2 : decode cX8_breaks 2 = .ok (.invokevirtual 227, 3) := by decide +kernel
theorem dX8_breaks_5 : decode cX8_breaks 5 = .ok (.aload_n 0, 1) := by decide +kernel
theorem dX8_breaks_6 : decode cX8_breaks 6 = .ok (.getfield 242, 3) := by decide +kernel
theorem dX8_breaks_9 : decode cX8_breaks 9 = .ok (.iadd, 1) := by decide +kernel
theorem dX8_breaks_10 : decode cX8_breaks 10 = .ok (.istore_n 3, 1) := by decide +kernel
theorem dX8_breaks_11 : decode cX8_breaks 11 = .ok (.iload_n 1, 1) := by decide +kernel
theorem dX8_breaks_12 : decode cX8_breaks 12 = .ok (.aload_n 0, 1) := by decide +kernel
theorem dX8_breaks_13 : decode cX8_breaks 13 = .ok (.iconst 0, 1) := by decide +kernel
theorem dX8_breaks_14 : decode cX8_breaks 14 = .ok (.invokevirtual 227, 3) := by decide +kernel
theorem dX8_breaks_17 : decode cX8_breaks 17 = .ok (.if_icmp .le 7, 3) := by decide +kernel
theorem dX8_breaks_20 : decode cX8_breaks 20 = .ok (.iconst 1, 1) := by decide +kernel
theorem dX8_breaks_21 : decode cX8_breaks 21 = .ok (.goto 34, 3) := by decide +kernel
theorem dX8_breaks_24 : decode cX8_breaks 24 = .ok (.iload_n 3, 1) := by decide +kernel
theorem dX8_breaks_25 : decode cX8_breaks 25 = .ok (.iload_n 1, 1) := by decide +kernel
theorem dX8_breaks_26 : decode cX8_breaks 26 = .ok (.iadd, 1) := by decide +kernel
theorem dX8_breaks_27 : decode cX8_breaks 27 = .ok (.aload_n 0, 1) := by decide +kernel
theorem dX8_breaks_28 : decode cX8_breaks 28 = .ok (.iconst 1, 1) := by decide +kernel
theorem dX8_breaks_29 : decode cX8_breaks 29 = .ok (.invokevirtual 227, 3) := by decide +kernel
theorem dX8_breaks_32 : decode cX8_breaks 32 = .ok (.if_icmp .le 7, 3) := by decide +kernel
theorem dX8_breaks_35 : decode cX8_breaks 35 = .ok (.iconst 2, 1) := by decide +kernel
theorem dX8_breaks_36 : decode cX8_breaks 36 = .ok (.goto 19, 3) := by decide +kernel
theorem dX8_breaks_39 : decode cX8_breaks 39 = .ok (.iload_n 3, 1) := by decide +kernel
theorem dX8_breaks_40 : decode cX8_breaks 40 = .ok (.iload_n 2, 1) := by decide +kernel
theorem dX8_breaks_41 : decode cX8_breaks 41 = .ok (.iadd, 1) := by decide +kernel
theorem dX8_breaks_42 : decode cX8_breaks 42 = .ok (.aload_n 0, 1) := by decide +kernel
theorem dX8_breaks_43 : decode cX8_breaks 43 = .ok (.iconst 2, 1) := by decide +kernel
theorem dX8_breaks_44 : decode cX8_breaks 44 = .ok (.invokevirtual 227, 3) := by decide +kernel
theorem dX8_breaks_47 : decode cX8_breaks 47 = .ok (.if_icmp .le 7, 3) := by decide +kernel
theorem dX8_breaks_50 : decode cX8_breaks 50 = .ok (.iconst 3, 1) := by decide +kernel
theorem dX8_breaks_51 : decode cX8_breaks 51 = .ok (.goto 4, 3) := by decide +kernel
theorem dX8_breaks_54 : decode cX8_breaks 54 = .ok (.iconst 0, 1) := by decide +kernel
theorem dX8_breaks_55 : decode cX8_breaks 55 = .ok (.ireturn, 1) := by decide +kernel
theorem dX8_legal_0 : decode cX8_legal 0 = .ok (.aload_n 0, 1) := by decide +kernel
theorem dX8_legal_1 : decode cX8_legal 1 = .ok (.iload_n 1, 1) := by decide +kernel
theorem dX8_legal_2 : decode cX8_legal 2 = .ok (.invokevirtual 274, 3) := by decide +kernel
theorem dX8_legal_5 : decode cX8_legal 5 = .ok (.ifCond .eq 18, 3) := by decide +kernel
theorem dX8_legal_8 : decode cX8_legal 8 = .ok (.aload_n 0, 1) := by decide +kernel
theorem dX8_legal_9 : decode cX8_legal 9 = .ok (.aload_n 0, 1) := by decide +kernel
theorem dX8_legal_10 : decode cX8_legal 10 = .ok (.getfield 271, 3) := by decide +kernel
theorem dX8_legal_13 : decode cX8_legal 13 = .ok (.aload_n 0, 1) := by decide +kernel
theorem dX8_legal_14 : decode cX8_legal 14 = .ok (.getfield 245, 3) := by decide +kernel
theorem dX8_legal_17 : decode cX8_legal 17 = .ok (.invokevirtual 280, 3) := by decide +kernel
theorem dX8_legal_20 : decode cX8_legal 20 = .ok (.goto 4, 3) := by decide +kernel
theorem dX8_legal_23 : decode cX8_legal 23 = .ok (.iconst (-1), 1) := by decide +kernel
theorem dX8_legal_24 : decode cX8_legal 24 = .ok (.ireturn, 1) := by decide +kernel
theorem dX8_borne_0 : decode cX8_borne 0 = .ok (.aload_n 0, 1) := by decide +kernel
theorem dX8_borne_1 : decode cX8_borne 1 = .ok (.getfield 140, 3) := by decide +kernel
theorem dX8_borne_4 : decode cX8_borne 4 = .ok (.ifCond .eq 13, 3) := by decide +kernel
theorem dX8_borne_7 : decode cX8_borne 7 = .ok (.iload_n 1, 1) := by decide +kernel
theorem dX8_borne_8 : decode cX8_borne 8 = .ok (.iconst 1, 1) := by decide +kernel
theorem dX8_borne_9 : decode cX8_borne 9 = .ok (.if_icmp .lt 8, 3) := by decide +kernel
theorem dX8_borne_12 : decode cX8_borne 12 = .ok (.iload_n 1, 1) := by decide +kernel
theorem dX8_borne_13 : decode cX8_borne 13 = .ok (.iconst 3, 1) := by decide +kernel
theorem dX8_borne_14 : decode cX8_borne 14 = .ok (.if_icmp .le 5, 3) := by decide +kernel
theorem dX8_borne_17 : decode cX8_borne 17 = .ok (.iconst (-1), 1) := by decide +kernel
theorem dX8_borne_18 : decode cX8_borne 18 = .ok (.ireturn, 1) := by decide +kernel
theorem dX8_borne_19 : decode cX8_borne 19 = .ok (.ldc_w 258, 3) := by decide +kernel
theorem dX8_borne_22 : decode cX8_borne 22 = .ok (.istore_n 2, 1) := by decide +kernel
theorem dX8_borne_23 : decode cX8_borne 23 = .ok (.iconst 0, 1) := by decide +kernel
theorem dX8_borne_24 : decode cX8_borne 24 = .ok (.istore_n 3, 1) := by decide +kernel
theorem dX8_borne_25 : decode cX8_borne 25 = .ok (.iload_n 3, 1) := by decide +kernel
theorem dX8_borne_26 : decode cX8_borne 26 = .ok (.iload_n 1, 1) := by decide +kernel
theorem dX8_borne_27 : decode cX8_borne 27 = .ok (.if_icmp .ge 80, 3) := by decide +kernel
theorem dX8_borne_30 : decode cX8_borne 30 = .ok (.aload_n 0, 1) := by decide +kernel
theorem dX8_borne_31 : decode cX8_borne 31 = .ok (.iload_n 3, 1) := by decide +kernel
theorem dX8_borne_32 : decode cX8_borne 32 = .ok (.invokevirtual 274, 3) := by decide +kernel
theorem dX8_borne_35 : decode cX8_borne 35 = .ok (.ifCond .ne 6, 3) := by decide +kernel
theorem dX8_borne_38 : decode cX8_borne 38 = .ok (.goto 63, 3) := by decide +kernel
theorem dX8_borne_41 : decode cX8_borne 41 = .ok (.iconst 0, 1) := by decide +kernel
theorem dX8_borne_42 : decode cX8_borne 42 = .ok (.istore 4, 2) := by decide +kernel
theorem dX8_borne_44 : decode cX8_borne 44 = .ok (.iconst 0, 1) := by decide +kernel
theorem dX8_borne_45 : decode cX8_borne 45 = .ok (.istore 5, 2) := by decide +kernel
theorem dX8_borne_47 : decode cX8_borne 47 = .ok (.iload 5, 2) := by decide +kernel
theorem dX8_borne_49 : decode cX8_borne 49 = .ok (.iload_n 1, 1) := by decide +kernel
theorem dX8_borne_50 : decode cX8_borne 50 = .ok (.if_icmp .ge 38, 3) := by decide +kernel
theorem dX8_borne_53 : decode cX8_borne 53 = .ok (.aload_n 0, 1) := by decide +kernel
theorem dX8_borne_54 : decode cX8_borne 54 = .ok (.iload 5, 2) := by decide +kernel
theorem dX8_borne_56 : decode cX8_borne 56 = .ok (.iconst 0, 1) := by decide +kernel
theorem dX8_borne_57 : decode cX8_borne 57 = .ok (.aload_n 0, 1) := by decide +kernel
theorem dX8_borne_58 : decode cX8_borne 58 = .ok (.getfield 245, 3) := by decide +kernel
theorem dX8_borne_61 : decode cX8_borne 61 = .ok (.invokevirtual 277, 3) := by decide +kernel
theorem dX8_borne_64 : decode cX8_borne 64 = .ok (.istore 6, 2) := by decide +kernel
theorem dX8_borne_66 : decode cX8_borne 66 = .ok (.iload 6, 2) := by decide +kernel
theorem dX8_borne_68 : decode cX8_borne 68 = .ok (.iload 4, 2) := by decide +kernel
theorem dX8_borne_70 : decode cX8_borne 70 = .ok (.if_icmp .le 8, 3) := by decide +kernel
theorem dX8_borne_73 : decode cX8_borne 73 = .ok (.iload 6, 2) := by decide +kernel
theorem dX8_borne_75 : decode cX8_borne 75 = .ok (.goto 5, 3) := by decide +kernel
theorem dX8_borne_78 : decode cX8_borne 78 = .ok (.iload 4, 2) := by decide +kernel
theorem dX8_borne_80 : decode cX8_borne 80 = .ok (.istore 4, 2) := by decide +kernel
theorem dX8_borne_82 : decode cX8_borne 82 = .ok (.iinc 5 1, 3) := by decide +kernel
theorem dX8_borne_85 : decode cX8_borne 85 = .ok (.goto (-38), 3) := by decide +kernel
theorem dX8_borne_88 : decode cX8_borne 88 = .ok (.iload 4, 2) := by decide +kernel
theorem dX8_borne_90 : decode cX8_borne 90 = .ok (.iload_n 2, 1) := by decide +kernel
theorem dX8_borne_91 : decode cX8_borne 91 = .ok (.if_icmp .ge 8, 3) := by decide +kernel
theorem dX8_borne_94 : decode cX8_borne 94 = .ok (.iload 4, 2) := by decide +kernel
theorem dX8_borne_96 : decode cX8_borne 96 = .ok (.goto 4, 3) := by decide +kernel
theorem dX8_borne_99 : decode cX8_borne 99 = .ok (.iload_n 2, 1) := by decide +kernel
theorem dX8_borne_100 : decode cX8_borne 100 = .ok (.istore_n 2, 1) := by decide +kernel
theorem dX8_borne_101 : decode cX8_borne 101 = .ok (.iinc 3 1, 3) := by decide +kernel
theorem dX8_borne_104 : decode cX8_borne 104 = .ok (.goto (-79), 3) := by decide +kernel
theorem dX8_borne_107 : decode cX8_borne 107 = .ok (.iload_n 2, 1) := by decide +kernel
theorem dX8_borne_108 : decode cX8_borne 108 = .ok (.ldc_w 258, 3) := by decide +kernel
theorem dX8_borne_111 : decode cX8_borne 111 = .ok (.if_icmp .ne 7, 3) := by decide +kernel
theorem dX8_borne_114 : decode cX8_borne 114 = .ok (.iconst (-1), 1) := by decide +kernel
theorem dX8_borne_115 : decode cX8_borne 115 = .ok (.goto 4, 3) := by decide +kernel
theorem dX8_borne_118 : decode cX8_borne 118 = .ok (.iload_n 2, 1) := by decide +kernel
theorem dX8_borne_119 : decode cX8_borne 119 = .ok (.ireturn, 1) := by decide +kernel
theorem dX8_fly_0 : decode cX8_fly 0 = .ok (.aload_n 0, 1) := by decide +kernel
theorem dX8_fly_1 : decode cX8_fly 1 = .ok (.iload_n 1, 1) := by decide +kernel
theorem dX8_fly_2 : decode cX8_fly 2 = .ok (.invokevirtual 274, 3) := by decide +kernel
theorem dX8_fly_5 : decode cX8_fly 5 = .ok (.ifCond .eq 17, 3) := by decide +kernel
theorem dX8_fly_8 : decode cX8_fly 8 = .ok (.iload_n 2, 1) := by decide +kernel
theorem dX8_fly_9 : decode cX8_fly 9 = .ok (.aload_n 0, 1) := by decide +kernel
theorem dX8_fly_10 : decode cX8_fly 10 = .ok (.getfield 271, 3) := by decide +kernel
theorem dX8_fly_13 : decode cX8_fly 13 = .ok (.if_icmp .lt 9, 3) := by decide +kernel
theorem dX8_fly_16 : decode cX8_fly 16 = .ok (.iload_n 2, 1) := by decide +kernel
theorem dX8_fly_17 : decode cX8_fly 17 = .ok (.ldc 176, 2) := by decide +kernel
theorem dX8_fly_19 : decode cX8_fly 19 = .ok (.if_icmp .le 5, 3) := by decide +kernel
theorem dX8_fly_22 : decode cX8_fly 22 = .ok (.iconst 0, 1) := by decide +kernel
theorem dX8_fly_23 : decode cX8_fly 23 = .ok (.ireturn, 1) := by decide +kernel
theorem dX8_fly_24 : decode cX8_fly 24 = .ok (.aload_n 0, 1) := by decide +kernel
theorem dX8_fly_25 : decode cX8_fly 25 = .ok (.getfield 113, 3) := by decide +kernel
theorem dX8_fly_28 : decode cX8_fly 28 = .ok (.iconst 0, 1) := by decide +kernel
theorem dX8_fly_29 : decode cX8_fly 29 = .ok (.iload_n 2, 1) := by decide +kernel
theorem dX8_fly_30 : decode cX8_fly 30 = .ok (.iastore, 1) := by decide +kernel
theorem dX8_fly_31 : decode cX8_fly 31 = .ok (.iconst 0, 1) := by decide +kernel
theorem dX8_fly_32 : decode cX8_fly 32 = .ok (.istore_n 3, 1) := by decide +kernel
theorem dX8_fly_33 : decode cX8_fly 33 = .ok (.iload_n 3, 1) := by decide +kernel
theorem dX8_fly_34 : decode cX8_fly 34 = .ok (.aload_n 0, 1) := by decide +kernel
theorem dX8_fly_35 : decode cX8_fly 35 = .ok (.getfield 265, 3) := by decide +kernel
theorem dX8_fly_38 : decode cX8_fly 38 = .ok (.if_icmp .ge 119, 3) := by decide +kernel
theorem dX8_fly_41 : decode cX8_fly 41 = .ok (.aload_n 0, 1) := by decide +kernel
theorem dX8_fly_42 : decode cX8_fly 42 = .ok (.getfield 113, 3) := by decide +kernel
theorem dX8_fly_45 : decode cX8_fly 45 = .ok (.iload_n 3, 1) := by decide +kernel
theorem dX8_fly_46 : decode cX8_fly 46 = .ok (.iaload, 1) := by decide +kernel
theorem dX8_fly_47 : decode cX8_fly 47 = .ok (.aload_n 0, 1) := by decide +kernel
theorem dX8_fly_48 : decode cX8_fly 48 = .ok (.iload_n 3, 1) := by decide +kernel
theorem dX8_fly_49 : decode cX8_fly 49 = .ok (.ifCond .ne 7, 3) := by decide +kernel
theorem dX8_fly_52 : decode cX8_fly 52 = .ok (.iconst (-1), 1) := by decide +kernel
theorem dX8_fly_53 : decode cX8_fly 53 = .ok (.goto 11, 3) := by decide +kernel
theorem dX8_fly_56 : decode cX8_fly 56 = .ok (.aload_n 0, 1) := by decide +kernel
theorem dX8_fly_57 : decode cX8_fly 57 = .ok (.getfield 110, 3) := by decide +kernel
theorem dX8_fly_60 : decode cX8_fly 60 = .ok (.iload_n 3, 1) := by decide +kernel
theorem dX8_fly_61 : decode cX8_fly 61 = .ok (.iconst 1, 1) := by decide +kernel
theorem dX8_fly_62 : decode cX8_fly 62 = .ok (.isub, 1) := by decide +kernel
theorem dX8_fly_63 : decode cX8_fly 63 = .ok (.iaload, 1) := by decide +kernel
theorem dX8_fly_64 : decode cX8_fly 64 = .ok (.aload_n 0, 1) := by decide +kernel
theorem dX8_fly_65 : decode cX8_fly 65 = .ok (.getfield 110, 3) := by decide +kernel
theorem dX8_fly_68 : decode cX8_fly 68 = .ok (.iload_n 3, 1) := by decide +kernel
theorem dX8_fly_69 : decode cX8_fly 69 = .ok (.iaload, 1) := by decide +kernel
theorem dX8_fly_70 : decode cX8_fly 70 = .ok (.invokevirtual 259, 3) := by decide +kernel
theorem dX8_fly_73 : decode cX8_fly 73 = .ok (.isub, 1) := by decide +kernel
theorem dX8_fly_74 : decode cX8_fly 74 = .ok (.istore 4, 2) := by decide +kernel
theorem dX8_fly_76 : decode cX8_fly 76 = .ok (.aload_n 0, 1) := by decide +kernel
theorem dX8_fly_77 : decode cX8_fly 77 = .ok (.aload_n 0, 1) := by decide +kernel
theorem dX8_fly_78 : decode cX8_fly 78 = .ok (.getfield 107, 3) := by decide +kernel
theorem dX8_fly_81 : decode cX8_fly 81 = .ok (.iload_n 3, 1) := by decide +kernel
theorem dX8_fly_82 : decode cX8_fly 82 = .ok (.iaload, 1) := by decide +kernel
theorem dX8_fly_83 : decode cX8_fly 83 = .ok (.aload_n 0, 1) := by decide +kernel
theorem dX8_fly_84 : decode cX8_fly 84 = .ok (.getfield 110, 3) := by decide +kernel
theorem dX8_fly_87 : decode cX8_fly 87 = .ok (.iload_n 3, 1) := by decide +kernel
theorem dX8_fly_88 : decode cX8_fly 88 = .ok (.iaload, 1) := by decide +kernel
theorem dX8_fly_89 : decode cX8_fly 89 = .ok (.iload_n 1, 1) := by decide +kernel
theorem dX8_fly_90 : decode cX8_fly 90 = .ok (.invokevirtual 252, 3) := by decide +kernel
theorem dX8_fly_93 : decode cX8_fly 93 = .ok (.istore 5, 2) := by decide +kernel
theorem dX8_fly_95 : decode cX8_fly 95 = .ok (.iload 4, 2) := by decide +kernel
theorem dX8_fly_97 : decode cX8_fly 97 = .ok (.aload_n 0, 1) := by decide +kernel
theorem dX8_fly_98 : decode cX8_fly 98 = .ok (.iload 5, 2) := by decide +kernel
theorem dX8_fly_100 : decode cX8_fly 100 = .ok (.aload_n 0, 1) := by decide +kernel
theorem dX8_fly_101 : decode cX8_fly 101 = .ok (.getfield 110, 3) := by decide +kernel
theorem dX8_fly_104 : decode cX8_fly 104 = .ok (.iload_n 3, 1) := by decide +kernel
theorem dX8_fly_105 : decode cX8_fly 105 = .ok (.iaload, 1) := by decide +kernel
theorem dX8_fly_106 : decode cX8_fly 106 = .ok (.iconst 0, 1) := by decide +kernel
theorem dX8_fly_107 : decode cX8_fly 107 = .ok (.invokevirtual 255, 3) := by decide +kernel
theorem dX8_fly_110 : decode cX8_fly 110 = .ok (.isub, 1) := by decide +kernel
theorem dX8_fly_111 : decode cX8_fly 111 = .ok (.istore 6, 2) := by decide +kernel
theorem dX8_fly_113 : decode cX8_fly 113 = .ok (.iload 6, 2) := by decide +kernel
theorem dX8_fly_115 : decode cX8_fly 115 = .ok (.aload_n 0, 1) := by decide +kernel
theorem dX8_fly_116 : decode cX8_fly 116 = .ok (.iload 5, 2) := by decide +kernel
theorem dX8_fly_118 : decode cX8_fly 118 = .ok (.aload_n 0, 1) := by decide +kernel
theorem dX8_fly_119 : decode cX8_fly 119 = .ok (.getfield 110, 3) := by decide +kernel
theorem dX8_fly_122 : decode cX8_fly 122 = .ok (.iload_n 3, 1) := by decide +kernel
theorem dX8_fly_123 : decode cX8_fly 123 = .ok (.iaload, 1) := by decide +kernel
theorem dX8_fly_124 : decode cX8_fly 124 = .ok (.iload 6, 2) := by decide +kernel
theorem dX8_fly_126 : decode cX8_fly 126 = .ok (.invokevirtual 255, 3) := by decide +kernel
theorem dX8_fly_129 : decode cX8_fly 129 = .ok (.iadd, 1) := by decide +kernel
theorem dX8_fly_130 : decode cX8_fly 130 = .ok (.iload 4, 2) := by decide +kernel
theorem dX8_fly_132 : decode cX8_fly 132 = .ok (.if_icmp .le 9, 3) := by decide +kernel
theorem dX8_fly_135 : decode cX8_fly 135 = .ok (.iinc 6 (-1), 3) := by decide +kernel
theorem dX8_fly_138 : decode cX8_fly 138 = .ok (.goto (-25), 3) := by decide +kernel
theorem dX8_fly_141 : decode cX8_fly 141 = .ok (.aload_n 0, 1) := by decide +kernel
theorem dX8_fly_142 : decode cX8_fly 142 = .ok (.getfield 113, 3) := by decide +kernel
theorem dX8_fly_145 : decode cX8_fly 145 = .ok (.iload_n 3, 1) := by decide +kernel
theorem dX8_fly_146 : decode cX8_fly 146 = .ok (.iconst 1, 1) := by decide +kernel
theorem dX8_fly_147 : decode cX8_fly 147 = .ok (.iadd, 1) := by decide +kernel
theorem dX8_fly_148 : decode cX8_fly 148 = .ok (.iload 6, 2) := by decide +kernel
theorem dX8_fly_150 : decode cX8_fly 150 = .ok (.iastore, 1) := by decide +kernel
theorem dX8_fly_151 : decode cX8_fly 151 = .ok (.iinc 3 1, 3) := by decide +kernel
theorem dX8_fly_154 : decode cX8_fly 154 = .ok (.goto (-121), 3) := by decide +kernel
theorem dX8_fly_157 : decode cX8_fly 157 = .ok (.iconst 1, 1) := by decide +kernel
theorem dX8_fly_158 : decode cX8_fly 158 = .ok (.ireturn, 1) := by decide +kernel
theorem dX8_at_0 : decode cX8_at 0 = .ok (.aload_n 0, 1) := by decide +kernel
theorem dX8_at_1 : decode cX8_at 1 = .ok (.iload_n 1, 1) := by decide +kernel
theorem dX8_at_2 : decode cX8_at 2 = .ok (.iload_n 2, 1) := by decide +kernel
theorem dX8_at_3 : decode cX8_at 3 = .ok (.invokevirtual 283, 3) := by decide +kernel
theorem dX8_at_6 : decode cX8_at 6 = .ok (.ifCond .eq 15, 3) := by decide +kernel
theorem dX8_at_9 : decode cX8_at 9 = .ok (.iload_n 3, 1) := by decide +kernel
theorem dX8_at_10 : decode cX8_at 10 = .ok (.ifCond .lt 11, 3) := by decide +kernel
theorem dX8_at_13 : decode cX8_at 13 = .ok (.iload_n 3, 1) := by decide +kernel
theorem dX8_at_14 : decode cX8_at 14 = .ok (.aload_n 0, 1) := by decide +kernel
theorem dX8_at_15 : decode cX8_at 15 = .ok (.getfield 265, 3) := by decide +kernel
theorem dX8_at_18 : decode cX8_at 18 = .ok (.if_icmp .le 7, 3) := by decide +kernel
theorem dX8_at_21 : decode cX8_at 21 = .ok (.iconst (-1), 1) := by decide +kernel
theorem dX8_at_22 : decode cX8_at 22 = .ok (.goto 9, 3) := by decide +kernel
theorem dX8_at_25 : decode cX8_at 25 = .ok (.aload_n 0, 1) := by decide +kernel
theorem dX8_at_26 : decode cX8_at 26 = .ok (.getfield 113, 3) := by decide +kernel
theorem dX8_at_29 : decode cX8_at 29 = .ok (.iload_n 3, 1) := by decide +kernel
theorem dX8_at_30 : decode cX8_at 30 = .ok (.iaload, 1) := by decide +kernel
theorem dX8_at_31 : decode cX8_at 31 = .ok (.ireturn, 1) := by decide +kernel
theorem dX8_homeFrom_0 : decode cX8_homeFrom 0 = .ok (.iload_n 1, 1) := by decide +kernel
theorem dX8_homeFrom_1 : decode cX8_homeFrom 1 = .ok (.ifCond .ne 7, 3) := by decide +kernel
theorem dX8_homeFrom_4 : decode cX8_homeFrom 4 = .ok (.iconst 0, 1) := by decide +kernel
theorem dX8_homeFrom_5 : decode cX8_homeFrom 5 = .ok (.goto 36, 3) := by decide +kernel
theorem dX8_homeFrom_8 : decode cX8_homeFrom 8 = .ok (.aload_n 0, 1) := by decide +kernel
theorem dX8_homeFrom_9 : decode cX8_homeFrom 9 = .ok (.aload_n 0, 1) := by decide +kernel
theorem dX8_homeFrom_10 : decode cX8_homeFrom 10 = .ok (.getfield 71, 3) := by decide +kernel
theorem dX8_homeFrom_13 : decode cX8_homeFrom 13 = .ok (.bipush 16, 2) := by decide +kernel
theorem dX8_homeFrom_15 : decode cX8_homeFrom 15 = .ok (.aload_n 0, 1) := by decide +kernel
theorem dX8_homeFrom_16 : decode cX8_homeFrom 16 = .ok (.getfield 124, 3) := by decide +kernel
theorem dX8_homeFrom_19 : decode cX8_homeFrom 19 = .ok (.imul, 1) := by decide +kernel
theorem dX8_homeFrom_20 : decode cX8_homeFrom 20 = .ok (.aload_n 0, 1) := by decide +kernel
theorem dX8_homeFrom_21 : decode cX8_homeFrom 21 = .ok (.getfield 107, 3) := by decide +kernel
theorem dX8_homeFrom_24 : decode cX8_homeFrom 24 = .ok (.iload_n 1, 1) := by decide +kernel
theorem dX8_homeFrom_25 : decode cX8_homeFrom 25 = .ok (.iconst 1, 1) := by decide +kernel
theorem dX8_homeFrom_26 : decode cX8_homeFrom 26 = .ok (.isub, 1) := by decide +kernel
theorem dX8_homeFrom_27 : decode cX8_homeFrom 27 = .ok (.iaload, 1) := by decide +kernel
theorem dX8_homeFrom_28 : decode cX8_homeFrom 28 = .ok (.iadd, 1) := by decide +kernel
theorem dX8_homeFrom_29 : decode cX8_homeFrom 29 = .ok (.iaload, 1) := by decide +kernel
theorem dX8_homeFrom_30 : decode cX8_homeFrom 30 = .ok (.aload_n 0, 1) := by decide +kernel
theorem dX8_homeFrom_31 : decode cX8_homeFrom 31 = .ok (.getfield 110, 3) := by decide +kernel
theorem dX8_homeFrom_34 : decode cX8_homeFrom 34 = .ok (.iload_n 1, 1) := by decide +kernel
theorem dX8_homeFrom_35 : decode cX8_homeFrom 35 = .ok (.iconst 1, 1) := by decide +kernel
theorem dX8_homeFrom_36 : decode cX8_homeFrom 36 = .ok (.isub, 1) := by decide +kernel
theorem dX8_homeFrom_37 : decode cX8_homeFrom 37 = .ok (.iaload, 1) := by decide +kernel
theorem dX8_homeFrom_38 : decode cX8_homeFrom 38 = .ok (.invokevirtual 262, 3) := by decide +kernel
theorem dX8_homeFrom_41 : decode cX8_homeFrom 41 = .ok (.ireturn, 1) := by decide +kernel
theorem dX8_home_0 : decode cX8_home 0 = .ok (.aload_n 0, 1) := by decide +kernel
theorem dX8_home_1 : decode cX8_home 1 = .ok (.iload_n 1, 1) := by decide +kernel
theorem dX8_home_2 : decode cX8_home 2 = .ok (.invokevirtual 274, 3) := by decide +kernel
theorem dX8_home_5 : decode cX8_home 5 = .ok (.ifCond .eq 15, 3) := by decide +kernel
theorem dX8_home_8 : decode cX8_home 8 = .ok (.iload_n 2, 1) := by decide +kernel
theorem dX8_home_9 : decode cX8_home 9 = .ok (.ifCond .lt 11, 3) := by decide +kernel
theorem dX8_home_12 : decode cX8_home 12 = .ok (.iload_n 2, 1) := by decide +kernel
theorem dX8_home_13 : decode cX8_home 13 = .ok (.aload_n 0, 1) := by decide +kernel
theorem dX8_home_14 : decode cX8_home 14 = .ok (.getfield 265, 3) := by decide +kernel
theorem dX8_home_17 : decode cX8_home 17 = .ok (.if_icmp .le 5, 3) := by decide +kernel
theorem dX8_home_20 : decode cX8_home 20 = .ok (.iconst (-1), 1) := by decide +kernel
theorem dX8_home_21 : decode cX8_home 21 = .ok (.ireturn, 1) := by decide +kernel
theorem dX8_home_22 : decode cX8_home 22 = .ok (.aload_n 0, 1) := by decide +kernel
theorem dX8_home_23 : decode cX8_home 23 = .ok (.iload_n 1, 1) := by decide +kernel
theorem dX8_home_24 : decode cX8_home 24 = .ok (.aload_n 0, 1) := by decide +kernel
theorem dX8_home_25 : decode cX8_home 25 = .ok (.getfield 233, 3) := by decide +kernel
theorem dX8_home_28 : decode cX8_home 28 = .ok (.invokevirtual 268, 3) := by decide +kernel
theorem dX8_home_31 : decode cX8_home 31 = .ok (.aload_n 0, 1) := by decide +kernel
theorem dX8_home_32 : decode cX8_home 32 = .ok (.iload_n 2, 1) := by decide +kernel
theorem dX8_home_33 : decode cX8_home 33 = .ok (.invokevirtual 287, 3) := by decide +kernel
theorem dX8_home_36 : decode cX8_home 36 = .ok (.istore_n 3, 1) := by decide +kernel
theorem dX8_home_37 : decode cX8_home 37 = .ok (.iload_n 3, 1) := by decide +kernel
theorem dX8_home_38 : decode cX8_home 38 = .ok (.ldc_w 258, 3) := by decide +kernel
theorem dX8_home_41 : decode cX8_home 41 = .ok (.if_icmp .ne 7, 3) := by decide +kernel
theorem dX8_home_44 : decode cX8_home 44 = .ok (.iconst (-1), 1) := by decide +kernel
theorem dX8_home_45 : decode cX8_home 45 = .ok (.goto 4, 3) := by decide +kernel
theorem dX8_home_48 : decode cX8_home 48 = .ok (.iload_n 3, 1) := by decide +kernel
theorem dX8_home_49 : decode cX8_home 49 = .ok (.ireturn, 1) := by decide +kernel
theorem dX8_lastReturn_0 : decode cX8_lastReturn 0 = .ok (.aload_n 0, 1) := by decide +kernel
theorem dX8_lastReturn_1 : decode cX8_lastReturn 1 = .ok (.iload_n 1, 1) := by decide +kernel
theorem dX8_lastReturn_2 : decode cX8_lastReturn 2 = .ok (.iload_n 2, 1) := by decide +kernel
theorem dX8_lastReturn_3 : decode cX8_lastReturn 3 = .ok (.invokevirtual 283, 3) := by decide +kernel
theorem dX8_lastReturn_6 : decode cX8_lastReturn 6 = .ok (.ifCond .ne 5, 3) := by decide +kernel
theorem dX8_lastReturn_9 : decode cX8_lastReturn 9 = .ok (.iconst (-1), 1) := by decide +kernel
theorem dX8_lastReturn_10 : decode cX8_lastReturn 10 = .ok (.ireturn, 1) := by decide +kernel
theorem dX8_lastReturn_11 : decode cX8_lastReturn 11 = .ok (.aload_n 0, 1) := by decide +kernel
theorem dX8_lastReturn_12 : decode cX8_lastReturn 12 = .ok (.iload_n 1, 1) := by decide +kernel
theorem dX8_lastReturn_13 : decode cX8_lastReturn 13 = .ok (.aload_n 0, 1) := by decide +kernel
theorem dX8_lastReturn_14 : decode cX8_lastReturn 14 = .ok (.getfield 233, 3) := by decide +kernel
theorem dX8_lastReturn_17 : decode cX8_lastReturn 17 = .ok (.invokevirtual 268, 3) := by decide +kernel
theorem dX8_lastReturn_20 : decode cX8_lastReturn 20 = .ok (.iconst 0, 1) := by decide +kernel
theorem dX8_lastReturn_21 : decode cX8_lastReturn 21 = .ok (.istore_n 3, 1) := by decide +kernel
theorem dX8_lastReturn_22 : decode cX8_lastReturn 22 = .ok (.iload_n 3, 1) := by decide +kernel
theorem dX8_lastReturn_23 : decode cX8_lastReturn 23 = .ok (.aload_n 0, 1) := by decide +kernel
theorem dX8_lastReturn_24 : decode cX8_lastReturn 24 = .ok (.getfield 265, 3) := by decide +kernel
theorem dX8_lastReturn_27 : decode cX8_lastReturn 27 = .ok (.if_icmp .ge 40, 3) := by decide +kernel
theorem dX8_lastReturn_30 : decode cX8_lastReturn 30 = .ok (.aload_n 0, 1) := by decide +kernel
theorem dX8_lastReturn_31 : decode cX8_lastReturn 31 = .ok (.iload_n 3, 1) := by decide +kernel
theorem dX8_lastReturn_32 : decode cX8_lastReturn 32 = .ok (.iconst 1, 1) := by decide +kernel
theorem dX8_lastReturn_33 : decode cX8_lastReturn 33 = .ok (.iadd, 1) := by decide +kernel
theorem dX8_lastReturn_34 : decode cX8_lastReturn 34 = .ok (.invokevirtual 287, 3) := by decide +kernel
theorem dX8_lastReturn_37 : decode cX8_lastReturn 37 = .ok (.ldc_w 258, 3) := by decide +kernel
theorem dX8_lastReturn_40 : decode cX8_lastReturn 40 = .ok (.if_icmp .eq 27, 3) := by decide +kernel
theorem dX8_lastReturn_43 : decode cX8_lastReturn 43 = .ok (.aload_n 0, 1) := by decide +kernel
theorem dX8_lastReturn_44 : decode cX8_lastReturn 44 = .ok (.getfield 113, 3) := by decide +kernel
theorem dX8_lastReturn_47 : decode cX8_lastReturn 47 = .ok (.iload_n 3, 1) := by decide +kernel
theorem dX8_lastReturn_48 : decode cX8_lastReturn 48 = .ok (.iconst 1, 1) := by decide +kernel
theorem dX8_lastReturn_49 : decode cX8_lastReturn 49 = .ok (.iadd, 1) := by decide +kernel
theorem dX8_lastReturn_50 : decode cX8_lastReturn 50 = .ok (.iaload, 1) := by decide +kernel
theorem dX8_lastReturn_51 : decode cX8_lastReturn 51 = .ok (.aload_n 0, 1) := by decide +kernel
theorem dX8_lastReturn_52 : decode cX8_lastReturn 52 = .ok (.iload_n 3, 1) := by decide +kernel
theorem dX8_lastReturn_53 : decode cX8_lastReturn 53 = .ok (.iconst 1, 1) := by decide +kernel
theorem dX8_lastReturn_54 : decode cX8_lastReturn 54 = .ok (.iadd, 1) := by decide +kernel
theorem dX8_lastReturn_55 : decode cX8_lastReturn 55 = .ok (.invokevirtual 287, 3) := by decide +kernel
theorem dX8_lastReturn_58 : decode cX8_lastReturn 58 = .ok (.if_icmp .lt 9, 3) := by decide +kernel
theorem dX8_lastReturn_61 : decode cX8_lastReturn 61 = .ok (.iinc 3 1, 3) := by decide +kernel
theorem dX8_lastReturn_64 : decode cX8_lastReturn 64 = .ok (.goto (-42), 3) := by decide +kernel
theorem dX8_lastReturn_67 : decode cX8_lastReturn 67 = .ok (.iload_n 3, 1) := by decide +kernel
theorem dX8_lastReturn_68 : decode cX8_lastReturn 68 = .ok (.ireturn, 1) := by decide +kernel
theorem dX8_carry_0 : decode cX8_carry 0 = .ok (.iload_n 2, 1) := by decide +kernel
theorem dX8_carry_1 : decode cX8_carry 1 = .ok (.ifCond .lt 44, 3) := by decide +kernel
