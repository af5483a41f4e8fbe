theorem dX7_flight_69 : decode cX7_flight 69 = .ok (.aload_n 0, 1) := by decide +kernel
theorem dX7_flight_70 : decode cX7_flight 70 = .ok (.getfield 40, 3) := by decide +kernel
theorem dX7_flight_73 : decode cX7_flight 73 = .ok (.iload_n 1, 1) := by decide +kernel
theorem dX7_flight_74 : decode cX7_flight 74 = .ok (.iload_n 2, 1) := by decide +kernel
theorem dX7_flight_75 : decode cX7_flight 75 = .ok (.iload_n 3, 1) := by decide +kernel
theorem dX7_flight_76 : decode cX7_flight 76 = .ok (.iload 4, 2) := by decide +kernel
theorem dX7_flight_78 : decode cX7_flight 78 = .ok (.iload 5, 2) := by decide +kernel
theorem dX7_flight_80 : decode cX7_flight 80 = .ok (.invokevirtual 95, 3) := by decide +kernel
theorem dX7_flight_83 : decode cX7_flight 83 = .ok (.aload_n 0, 1) := by decide +kernel
theorem dX7_flight_84 : decode cX7_flight 84 = .ok (.invokevirtual 79, 3) := by decide +kernel
theorem dX7_flight_87 : decode cX7_flight 87 = .ok (.iconst 1, 1) := by decide +kernel
theorem dX7_flight_88 : decode cX7_flight 88 = .ok (.ireturn, 1) := by decide +kernel
theorem dX7_told_0 : decode cX7_told 0 = .ok (.iload_n 1, 1) := by decide +kernel
theorem dX7_told_1 : decode cX7_told 1 = .ok (.tableswitch 228 0 7 #[47, 72, 126, 163, 188, 198, 208, 218], 47) := by decide +kernel
theorem dX7_told_48 : decode cX7_told 48 = .ok (.iload_n 2, 1) := by decide +kernel
theorem dX7_told_49 : decode cX7_told 49 = .ok (.bipush 6, 2) := by decide +kernel
theorem dX7_told_51 : decode cX7_told 51 = .ok (.invokestatic 91, 3) := by decide +kernel
theorem dX7_told_54 : decode cX7_told 54 = .ok (.ifCond .eq 15, 3) := by decide +kernel
theorem dX7_told_57 : decode cX7_told 57 = .ok (.aload_n 0, 1) := by decide +kernel
theorem dX7_told_58 : decode cX7_told 58 = .ok (.getfield 28, 3) := by decide +kernel
theorem dX7_told_61 : decode cX7_told 61 = .ok (.getfield 99, 3) := by decide +kernel
theorem dX7_told_64 : decode cX7_told 64 = .ok (.iload_n 2, 1) := by decide +kernel
theorem dX7_told_65 : decode cX7_told 65 = .ok (.iaload, 1) := by decide +kernel
theorem dX7_told_66 : decode cX7_told 66 = .ok (.goto 6, 3) := by decide +kernel
theorem dX7_told_69 : decode cX7_told 69 = .ok (.sipush (-1000), 3) := by decide +kernel
theorem dX7_told_72 : decode cX7_told 72 = .ok (.ireturn, 1) := by decide +kernel
theorem dX7_told_73 : decode cX7_told 73 = .ok (.iload_n 2, 1) := by decide +kernel
theorem dX7_told_74 : decode cX7_told 74 = .ok (.iconst 3, 1) := by decide +kernel
theorem dX7_told_75 : decode cX7_told 75 = .ok (.invokestatic 91, 3) := by decide +kernel
theorem dX7_told_78 : decode cX7_told 78 = .ok (.ifCond .eq 45, 3) := by decide +kernel
theorem dX7_told_81 : decode cX7_told 81 = .ok (.iload_n 3, 1) := by decide +kernel
theorem dX7_told_82 : decode cX7_told 82 = .ok (.bipush 6, 2) := by decide +kernel
theorem dX7_told_84 : decode cX7_told 84 = .ok (.invokestatic 91, 3) := by decide +kernel
theorem dX7_told_87 : decode cX7_told 87 = .ok (.ifCond .eq 36, 3) := by decide +kernel
theorem dX7_told_90 : decode cX7_told 90 = .ok (.iload 4, 2) := by decide +kernel
theorem dX7_told_92 : decode cX7_told 92 = .ok (.aload_n 0, 1) := by decide +kernel
theorem dX7_told_93 : decode cX7_told 93 = .ok (.getfield 28, 3) := by decide +kernel
theorem dX7_told_96 : decode cX7_told 96 = .ok (.getfield 82, 3) := by decide +kernel
theorem dX7_told_99 : decode cX7_told 99 = .ok (.invokestatic 91, 3) := by decide +kernel
theorem dX7_told_102 : decode cX7_told 102 = .ok (.ifCond .eq 21, 3) := by decide +kernel
theorem dX7_told_105 : decode cX7_told 105 = .ok (.aload_n 0, 1) := by decide +kernel
theorem dX7_told_106 : decode cX7_told 106 = .ok (.getfield 28, 3) := by decide +kernel
theorem dX7_told_109 : decode cX7_told 109 = .ok (.getfield 103, 3) := by decide +kernel
theorem dX7_told_112 : decode cX7_told 112 = .ok (.iload_n 2, 1) := by decide +kernel
theorem dX7_told_113 : decode cX7_told 113 = .ok (.iload_n 3, 1) := by decide +kernel
theorem dX7_told_114 : decode cX7_told 114 = .ok (.iload 4, 2) := by decide +kernel
theorem dX7_told_116 : decode cX7_told 116 = .ok (.invokestatic 106, 3) := by decide +kernel
theorem dX7_told_119 : decode cX7_told 119 = .ok (.iaload, 1) := by decide +kernel
theorem dX7_told_120 : decode cX7_told 120 = .ok (.goto 6, 3) := by decide +kernel
theorem dX7_told_123 : decode cX7_told 123 = .ok (.sipush (-1000), 3) := by decide +kernel
theorem dX7_told_126 : decode cX7_told 126 = .ok (.ireturn, 1) := by decide +kernel
theorem dX7_told_127 : decode cX7_told 127 = .ok (.iload_n 2, 1) := by decide +kernel
theorem dX7_told_128 : decode cX7_told 128 = .ok (.bipush 6, 2) := by decide +kernel
theorem dX7_told_130 : decode cX7_told 130 = .ok (.invokestatic 91, 3) := by decide +kernel
theorem dX7_told_133 : decode cX7_told 133 = .ok (.ifCond .eq 27, 3) := by decide +kernel
theorem dX7_told_136 : decode cX7_told 136 = .ok (.iload_n 3, 1) := by decide +kernel
theorem dX7_told_137 : decode cX7_told 137 = .ok (.iconst 5, 1) := by decide +kernel
theorem dX7_told_138 : decode cX7_told 138 = .ok (.invokestatic 91, 3) := by decide +kernel
theorem dX7_told_141 : decode cX7_told 141 = .ok (.ifCond .eq 19, 3) := by decide +kernel
theorem dX7_told_144 : decode cX7_told 144 = .ok (.aload_n 0, 1) := by decide +kernel
theorem dX7_told_145 : decode cX7_told 145 = .ok (.getfield 28, 3) := by decide +kernel
theorem dX7_told_148 : decode cX7_told 148 = .ok (.getfield 110, 3) := by decide +kernel
theorem dX7_told_151 : decode cX7_told 151 = .ok (.iload_n 2, 1) := by decide +kernel
theorem dX7_told_152 : decode cX7_told 152 = .ok (.iload_n 3, 1) := by decide +kernel
theorem dX7_told_153 : decode cX7_told 153 = .ok (.invokestatic 113, 3) := by decide +kernel
theorem dX7_told_156 : decode cX7_told 156 = .ok (.iaload, 1) := by decide +kernel
theorem dX7_told_157 : decode cX7_told 157 = .ok (.goto 6, 3) := by decide +kernel
theorem dX7_told_160 : decode cX7_told 160 = .ok (.sipush (-1000), 3) := by decide +kernel
theorem dX7_told_163 : decode cX7_told 163 = .ok (.ireturn, 1) := by decide +kernel
theorem dX7_told_164 : decode cX7_told 164 = .ok (.iload_n 2, 1) := by decide +kernel
theorem dX7_told_165 : decode cX7_told 165 = .ok (.bipush 6, 2) := by decide +kernel
theorem dX7_told_167 : decode cX7_told 167 = .ok (.invokestatic 91, 3) := by decide +kernel
theorem dX7_told_170 : decode cX7_told 170 = .ok (.ifCond .eq 15, 3) := by decide +kernel
theorem dX7_told_173 : decode cX7_told 173 = .ok (.aload_n 0, 1) := by decide +kernel
theorem dX7_told_174 : decode cX7_told 174 = .ok (.getfield 28, 3) := by decide +kernel
theorem dX7_told_177 : decode cX7_told 177 = .ok (.getfield 117, 3) := by decide +kernel
theorem dX7_told_180 : decode cX7_told 180 = .ok (.iload_n 2, 1) := by decide +kernel
theorem dX7_told_181 : decode cX7_told 181 = .ok (.iaload, 1) := by decide +kernel
theorem dX7_told_182 : decode cX7_told 182 = .ok (.goto 6, 3) := by decide +kernel
theorem dX7_told_185 : decode cX7_told 185 = .ok (.sipush (-1000), 3) := by decide +kernel
theorem dX7_told_188 : decode cX7_told 188 = .ok (.ireturn, 1) := by decide +kernel
theorem dX7_told_189 : decode cX7_told 189 = .ok (.aload_n 0, 1) := by decide +kernel
theorem dX7_told_190 : decode cX7_told 190 = .ok (.getfield 28, 3) := by decide +kernel
theorem dX7_told_193 : decode cX7_told 193 = .ok (.getfield 120, 3) := by decide +kernel
theorem dX7_told_196 : decode cX7_told 196 = .ok (.iconst 0, 1) := by decide +kernel
theorem dX7_told_197 : decode cX7_told 197 = .ok (.iaload, 1) := by decide +kernel
theorem dX7_told_198 : decode cX7_told 198 = .ok (.ireturn, 1) := by decide +kernel
theorem dX7_told_199 : decode cX7_told 199 = .ok (.aload_n 0, 1) := by decide +kernel
theorem dX7_told_200 : decode cX7_told 200 = .ok (.getfield 28, 3) := by decide +kernel
theorem dX7_told_203 : decode cX7_told 203 = .ok (.getfield 120, 3) := by decide +kernel
theorem dX7_told_206 : decode cX7_told 206 = .ok (.iconst 1, 1) := by decide +kernel
theorem dX7_told_207 : decode cX7_told 207 = .ok (.iaload, 1) := by decide +kernel
theorem dX7_told_208 : decode cX7_told 208 = .ok (.ireturn, 1) := by decide +kernel
theorem dX7_told_209 : decode cX7_told 209 = .ok (.aload_n 0, 1) := by decide +kernel
theorem dX7_told_210 : decode cX7_told 210 = .ok (.getfield 28, 3) := by decide +kernel
theorem dX7_told_213 : decode cX7_told 213 = .ok (.getfield 120, 3) := by decide +kernel
theorem dX7_told_216 : decode cX7_told 216 = .ok (.iconst 2, 1) := by decide +kernel
theorem dX7_told_217 : decode cX7_told 217 = .ok (.iaload, 1) := by decide +kernel
theorem dX7_told_218 : decode cX7_told 218 = .ok (.ireturn, 1) := by decide +kernel
theorem dX7_told_219 : decode cX7_told 219 = .ok (.aload_n 0, 1) := by decide +kernel
theorem dX7_told_220 : decode cX7_told 220 = .ok (.getfield 28, 3) := by decide +kernel
theorem dX7_told_223 : decode cX7_told 223 = .ok (.getfield 120, 3) := by decide +kernel
theorem dX7_told_226 : decode cX7_told 226 = .ok (.iconst 3, 1) := by decide +kernel
theorem dX7_told_227 : decode cX7_told 227 = .ok (.iaload, 1) := by decide +kernel
theorem dX7_told_228 : decode cX7_told 228 = .ok (.ireturn, 1) := by decide +kernel
theorem dX7_told_229 : decode cX7_told 229 = .ok (.sipush (-1000), 3) := by decide +kernel
theorem dX7_told_232 : decode cX7_told 232 = .ok (.ireturn, 1) := by decide +kernel
theorem dX7_minutes_0 : decode cX7_minutes 0 = .ok (.aload_n 0, 1) := by decide +kernel
theorem dX7_minutes_1 : decode cX7_minutes 1 = .ok (.getfield 40, 3) := by decide +kernel
theorem dX7_minutes_4 : decode cX7_minutes 4 = .ok (.getfield 75, 3) := by decide +kernel
theorem dX7_minutes_7 : decode cX7_minutes 7 = .ok (.ifCond .eq 34, 3) := by decide +kernel
theorem dX7_minutes_10 : decode cX7_minutes 10 = .ok (.iload_n 1, 1) := by decide +kernel
theorem dX7_minutes_11 : decode cX7_minutes 11 = .ok (.aload_n 0, 1) := by decide +kernel
theorem dX7_minutes_12 : decode cX7_minutes 12 = .ok (.getfield 28, 3) := by decide +kernel
theorem dX7_minutes_15 : decode cX7_minutes 15 = .ok (.getfield 82, 3) := by decide +kernel
theorem dX7_minutes_18 : decode cX7_minutes 18 = .ok (.invokestatic 91, 3) := by decide +kernel
theorem dX7_minutes_21 : decode cX7_minutes 21 = .ok (.ifCond .eq 20, 3) := by decide +kernel
theorem dX7_minutes_24 : decode cX7_minutes 24 = .ok (.iload_n 2, 1) := by decide +kernel
theorem dX7_minutes_25 : decode cX7_minutes 25 = .ok (.bipush 6, 2) := by decide +kernel
theorem dX7_minutes_27 : decode cX7_minutes 27 = .ok (.invokestatic 91, 3) := by decide +kernel
theorem dX7_minutes_30 : decode cX7_minutes 30 = .ok (.ifCond .eq 11, 3) := by decide +kernel
theorem dX7_minutes_33 : decode cX7_minutes 33 = .ok (.iload_n 3, 1) := by decide +kernel
theorem dX7_minutes_34 : decode cX7_minutes 34 = .ok (.iconst 3, 1) := by decide +kernel
theorem dX7_minutes_35 : decode cX7_minutes 35 = .ok (.invokestatic 91, 3) := by decide +kernel
theorem dX7_minutes_38 : decode cX7_minutes 38 = .ok (.ifCond .ne 5, 3) := by decide +kernel
theorem dX7_minutes_41 : decode cX7_minutes 41 = .ok (.iconst (-1), 1) := by decide +kernel
theorem dX7_minutes_42 : decode cX7_minutes 42 = .ok (.ireturn, 1) := by decide +kernel
theorem dX7_minutes_43 : decode cX7_minutes 43 = .ok (.aload_n 0, 1) := by decide +kernel
theorem dX7_minutes_44 : decode cX7_minutes 44 = .ok (.getfield 40, 3) := by decide +kernel
theorem dX7_minutes_47 : decode cX7_minutes 47 = .ok (.iload_n 1, 1) := by decide +kernel
theorem dX7_minutes_48 : decode cX7_minutes 48 = .ok (.iload_n 2, 1) := by decide +kernel
theorem dX7_minutes_49 : decode cX7_minutes 49 = .ok (.iload_n 3, 1) := by decide +kernel
theorem dX7_minutes_50 : decode cX7_minutes 50 = .ok (.invokevirtual 123, 3) := by decide +kernel
theorem dX7_minutes_53 : decode cX7_minutes 53 = .ok (.ireturn, 1) := by decide +kernel
theorem dX7_fuel_0 : decode cX7_fuel 0 = .ok (.aload_n 0, 1) := by decide +kernel
theorem dX7_fuel_1 : decode cX7_fuel 1 = .ok (.iload_n 1, 1) := by decide +kernel
theorem dX7_fuel_2 : decode cX7_fuel 2 = .ok (.iload_n 2, 1) := by decide +kernel
theorem dX7_fuel_3 : decode cX7_fuel 3 = .ok (.iload_n 3, 1) := by decide +kernel
theorem dX7_fuel_4 : decode cX7_fuel 4 = .ok (.invokevirtual 126, 3) := by decide +kernel
theorem dX7_fuel_7 : decode cX7_fuel 7 = .ok (.istore 5, 2) := by decide +kernel
theorem dX7_fuel_9 : decode cX7_fuel 9 = .ok (.iload 5, 2) := by decide +kernel
theorem dX7_fuel_11 : decode cX7_fuel 11 = .ok (.iconst (-1), 1) := by decide +kernel
theorem dX7_fuel_12 : decode cX7_fuel 12 = .ok (.if_icmp .eq 13, 3) := by decide +kernel
theorem dX7_fuel_15 : decode cX7_fuel 15 = .ok (.iload 4, 2) := by decide +kernel
theorem dX7_fuel_17 : decode cX7_fuel 17 = .ok (.ldc 129, 2) := by decide +kernel
theorem dX7_fuel_19 : decode cX7_fuel 19 = .ok (.invokestatic 91, 3) := by decide +kernel
theorem dX7_fuel_22 : decode cX7_fuel 22 = .ok (.ifCond .ne 5, 3) := by decide +kernel
theorem dX7_fuel_25 : decode cX7_fuel 25 = .ok (.iconst (-1), 1) := by decide +kernel
theorem dX7_fuel_26 : decode cX7_fuel 26 = .ok (.ireturn, 1) := by decide +kernel
theorem dX7_fuel_27 : decode cX7_fuel 27 = .ok (.aload_n 0, 1) := by decide +kernel
theorem dX7_fuel_28 : decode cX7_fuel 28 = .ok (.getfield 40, 3) := by decide +kernel
theorem dX7_fuel_31 : decode cX7_fuel 31 = .ok (.iload 5, 2) := by decide +kernel
theorem dX7_fuel_33 : decode cX7_fuel 33 = .ok (.iload_n 2, 1) := by decide +kernel
theorem dX7_fuel_34 : decode cX7_fuel 34 = .ok (.iload 4, 2) := by decide +kernel
theorem dX7_fuel_36 : decode cX7_fuel 36 = .ok (.invokevirtual 130, 3) := by decide +kernel
theorem dX7_fuel_39 : decode cX7_fuel 39 = .ok (.ireturn, 1) := by decide +kernel
theorem dX7_need_0 : decode cX7_need 0 = .ok (.aload_n 0, 1) := by decide +kernel
theorem dX7_need_1 : decode cX7_need 1 = .ok (.iload_n 1, 1) := by decide +kernel
theorem dX7_need_2 : decode cX7_need 2 = .ok (.invokevirtual 133, 3) := by decide +kernel
theorem dX7_need_5 : decode cX7_need 5 = .ok (.astore_n 2, 1) := by decide +kernel
theorem dX7_need_6 : decode cX7_need 6 = .ok (.aload_n 2, 1) := by decide +kernel
theorem dX7_need_7 : decode cX7_need 7 = .ok (.ifnonnull 7, 3) := by decide +kernel
theorem dX7_need_10 : decode cX7_need 10 = .ok (.iconst (-1), 1) := by decide +kernel
theorem dX7_need_11 : decode cX7_need 11 = .ok (.goto 10, 3) := by decide +kernel
theorem dX7_need_14 : decode cX7_need 14 = .ok (.aload_n 2, 1) := by decide +kernel
theorem dX7_need_15 : decode cX7_need 15 = .ok (.getfield 137, 3) := by decide +kernel
theorem dX7_need_18 : decode cX7_need 18 = .ok (.getfield 141, 3) := by decide +kernel
theorem dX7_need_21 : decode cX7_need 21 = .ok (.ireturn, 1) := by decide +kernel
theorem dX7_legs_0 : decode cX7_legs 0 = .ok (.aload_n 0, 1) := by decide +kernel
theorem dX7_legs_1 : decode cX7_legs 1 = .ok (.iload_n 1, 1) := by decide +kernel
theorem dX7_legs_2 : decode cX7_legs 2 = .ok (.invokevirtual 133, 3) := by decide +kernel
theorem dX7_legs_5 : decode cX7_legs 5 = .ok (.astore_n 2, 1) := by decide +kernel
theorem dX7_legs_6 : decode cX7_legs 6 = .ok (.aload_n 2, 1) := by decide +kernel
theorem dX7_legs_7 : decode cX7_legs 7 = .ok (.ifnonnull 7, 3) := by decide +kernel
theorem dX7_legs_10 : decode cX7_legs 10 = .ok (.iconst (-1), 1) := by decide +kernel
theorem dX7_legs_11 : decode cX7_legs 11 = .ok (.goto 10, 3) := by decide +kernel
theorem dX7_legs_14 : decode cX7_legs 14 = .ok (.aload_n 2, 1) := by decide +kernel
theorem dX7_legs_15 : decode cX7_legs 15 = .ok (.getfield 137, 3) := by decide +kernel
theorem dX7_legs_18 : decode cX7_legs 18 = .ok (.getfield 146, 3) := by decide +kernel
theorem dX7_legs_21 : decode cX7_legs 21 = .ok (.ireturn, 1) := by decide +kernel
theorem dX7_leg_0 : decode cX7_leg 0 = .ok (.aload_n 0, 1) := by decide +kernel
theorem dX7_leg_1 : decode cX7_leg 1 = .ok (.iload_n 1, 1) := by decide +kernel
theorem dX7_leg_2 : decode cX7_leg 2 = .ok (.invokevirtual 133, 3) := by decide +kernel
theorem dX7_leg_5 : decode cX7_leg 5 = .ok (.astore 4, 2) := by decide +kernel
theorem dX7_leg_7 : decode cX7_leg 7 = .ok (.aload 4, 2) := by decide +kernel
theorem dX7_leg_9 : decode cX7_leg 9 = .ok (.ifnull 18, 3) := by decide +kernel
theorem dX7_leg_12 : decode cX7_leg 12 = .ok (.iload_n 2, 1) := by decide +kernel
theorem dX7_leg_13 : decode cX7_leg 13 = .ok (.aload 4, 2) := by decide +kernel
theorem dX7_leg_15 : decode cX7_leg 15 = .ok (.getfield 137, 3) := by decide +kernel
theorem dX7_leg_18 : decode cX7_leg 18 = .ok (.getfield 146, 3) := by decide +kernel
theorem dX7_leg_21 : decode cX7_leg 21 = .ok (.invokestatic 91, 3) := by decide +kernel
theorem dX7_leg_24 : decode cX7_leg 24 = .ok (.ifCond .ne 5, 3) := by decide +kernel
theorem dX7_leg_27 : decode cX7_leg 27 = .ok (.iconst (-1), 1) := by decide +kernel
theorem dX7_leg_28 : decode cX7_leg 28 = .ok (.ireturn, 1) := by decide +kernel
theorem dX7_leg_29 : decode cX7_leg 29 = .ok (.iload_n 3, 1) := by decide +kernel
theorem dX7_leg_30 : decode cX7_leg 30 = .ok (.tableswitch 93 0 3 #[30, 41, 52, 59], 30) := by decide +kernel
theorem dX7_leg_60 : decode cX7_leg 60 = .ok (.aload 4, 2) := by decide +kernel
theorem dX7_leg_62 : decode cX7_leg 62 = .ok (.getfield 137, 3) := by decide +kernel
theorem dX7_leg_65 : decode cX7_leg 65 = .ok (.getfield 149, 3) := by decide +kernel
theorem dX7_leg_68 : decode cX7_leg 68 = .ok (.iload_n 2, 1) := by decide +kernel
theorem dX7_leg_69 : decode cX7_leg 69 = .ok (.iaload, 1) := by decide +kernel
theorem dX7_leg_70 : decode cX7_leg 70 = .ok (.ireturn, 1) := by decide +kernel
theorem dX7_leg_71 : decode cX7_leg 71 = .ok (.aload 4, 2) := by decide +kernel
theorem dX7_leg_73 : decode cX7_leg 73 = .ok (.getfield 137, 3) := by decide +kernel
theorem dX7_leg_76 : decode cX7_leg 76 = .ok (.getfield 152, 3) := by decide +kernel
theorem dX7_leg_79 : decode cX7_leg 79 = .ok (.iload_n 2, 1) := by decide +kernel
theorem dX7_leg_80 : decode cX7_leg 80 = .ok (.iaload, 1) := by decide +kernel
theorem dX7_leg_81 : decode cX7_leg 81 = .ok (.ireturn, 1) := by decide +kernel
theorem dX7_leg_82 : decode cX7_leg 82 = .ok (.aload 4, 2) := by decide +kernel
theorem dX7_leg_84 : decode cX7_leg 84 = .ok (.iload_n 2, 1) := by decide +kernel
theorem dX7_leg_85 : decode cX7_leg 85 = .ok (.invokevirtual 155, 3) := by decide +kernel
theorem dX7_leg_88 : decode cX7_leg 88 = .ok (.ireturn, 1) := by decide +kernel
theorem dX7_leg_89 : decode cX7_leg 89 = .ok (.aload_n 0, 1) := by decide +kernel
theorem dX7_leg_90 : decode cX7_leg 90 = .ok (.getfield 40, 3) := by decide +kernel
theorem dX7_leg_93 : decode cX7_leg 93 = .ok (.aload 4, 2) := by decide +kernel
theorem dX7_leg_95 : decode cX7_leg 95 = .ok (.iload_n 2, 1) := by decide +kernel
theorem dX7_leg_96 : decode cX7_leg 96 = .ok (.invokevirtual 155, 3) := by decide +kernel
theorem dX7_leg_99 : decode cX7_leg 99 = .ok (.aload 4, 2) := by decide +kernel
theorem dX7_leg_101 : decode cX7_leg 101 = .ok (.getfield 137, 3) := by decide +kernel
theorem dX7_leg_104 : decode cX7_leg 104 = .ok (.getfield 152, 3) := by decide +kernel
theorem dX7_leg_107 : decode cX7_leg 107 = .ok (.iload_n 2, 1) := by decide +kernel
theorem dX7_leg_108 : decode cX7_leg 108 = .ok (.iaload, 1) := by decide +kernel
theorem dX7_leg_109 : decode cX7_leg 109 = .ok (.aload 4, 2) := by decide +kernel
theorem dX7_leg_111 : decode cX7_leg 111 = .ok (.getfield 137, 3) := by decide +kernel
theorem dX7_leg_114 : decode cX7_leg 114 = .ok (.getfield 159, 3) := by decide +kernel
theorem dX7_leg_117 : decode cX7_leg 117 = .ok (.iload_n 2, 1) := by decide +kernel
theorem dX7_leg_118 : decode cX7_leg 118 = .ok (.iaload, 1) := by decide +kernel
theorem dX7_leg_119 : decode cX7_leg 119 = .ok (.invokevirtual 130, 3) := by decide +kernel
theorem dX7_leg_122 : decode cX7_leg 122 = .ok (.ireturn, 1) := by decide +kernel
theorem dX7_leg_123 : decode cX7_leg 123 = .ok (.iconst (-1), 1) := by decide +kernel
theorem dX7_leg_124 : decode cX7_leg 124 = .ok (.ireturn, 1) := by decide +kernel
theorem dX7_time_0 : decode cX7_time 0 = .ok (.aload_n 0, 1) := by decide +kernel
theorem dX7_time_1 : decode cX7_time 1 = .ok (.iload_n 1, 1) := by decide +kernel
theorem dX7_time_2 : decode cX7_time 2 = .ok (.invokevirtual 133, 3) := by decide +kernel
theorem dX7_time_5 : decode cX7_time 5 = .ok (.astore_n 2, 1) := by decide +kernel
theorem dX7_time_6 : decode cX7_time 6 = .ok (.aload_n 2, 1) := by decide +kernel
theorem dX7_time_7 : decode cX7_time 7 = .ok (.ifnonnull 5, 3) := by decide +kernel
theorem dX7_time_10 : decode cX7_time 10 = .ok (.iconst (-1), 1) := by decide +kernel
theorem dX7_time_11 : decode cX7_time 11 = .ok (.ireturn, 1) := by decide +kernel
theorem dX7_time_12 : decode cX7_time 12 = .ok (.iconst 0, 1) := by decide +kernel
theorem dX7_time_13 : decode cX7_time 13 = .ok (.istore_n 3, 1) := by decide +kernel
theorem dX7_time_14 : decode cX7_time 14 = .ok (.iconst 0, 1) := by decide +kernel
theorem dX7_time_15 : decode cX7_time 15 = .ok (.istore 4, 2) := by decide +kernel
theorem dX7_time_17 : decode cX7_time 17 = .ok (.iload 4, 2) := by decide +kernel
theorem dX7_time_19 : decode cX7_time 19 = .ok (.aload_n 2, 1) := by decide +kernel
theorem dX7_time_20 : decode cX7_time 20 = .ok (.getfield 137, 3) := by decide +kernel
theorem dX7_time_23 : decode cX7_time 23 = .ok (.getfield 146, 3) := by decide +kernel
theorem dX7_time_26 : decode cX7_time 26 = .ok (.if_icmp .ge 18, 3) := by decide +kernel
theorem dX7_time_29 : decode cX7_time 29 = .ok (.iload_n 3, 1) := by decide +kernel
theorem dX7_time_30 : decode cX7_time 30 = .ok (.aload_n 2, 1) := by decide +kernel
theorem dX7_time_31 : decode cX7_time 31 = .ok (.iload 4, 2) := by decide +kernel
theorem dX7_time_33 : decode cX7_time 33 = .ok (.invokevirtual 155, 3) := by decide +kernel
theorem dX7_time_36 : decode cX7_time 36 = .ok (.iadd, 1) := by decide +kernel
theorem dX7_time_37 : decode cX7_time 37 = .ok (.istore_n 3, 1) := by decide +kernel
theorem dX7_time_38 : decode cX7_time 38 = .ok (.iinc 4 1, 3) := by decide +kernel
theorem dX7_time_41 : decode cX7_time 41 = .ok (.goto (-24), 3) := by decide +kernel
theorem dX7_time_44 : decode cX7_time 44 = .ok (.iload_n 3, 1) := by decide +kernel
theorem dX7_time_45 : decode cX7_time 45 = .ok (.ireturn, 1) := by decide +kernel
theorem dX7_legal_0 : decode cX7_legal 0 = .ok (.aload_n 0, 1) := by decide +kernel
theorem dX7_legal_1 : decode cX7_legal 1 = .ok (.iload_n 1, 1) := by decide +kernel
theorem dX7_legal_2 : decode cX7_legal 2 = .ok (.invokevirtual 133, 3) := by decide +kernel
theorem dX7_legal_5 : decode cX7_legal 5 = .ok (.astore_n 2, 1) := by decide +kernel
theorem dX7_legal_6 : decode cX7_legal 6 = .ok (.aload_n 2, 1) := by decide +kernel
theorem dX7_legal_7 : decode cX7_legal 7 = .ok (.ifnonnull 7, 3) := by decide +kernel
theorem dX7_legal_10 : decode cX7_legal 10 = .ok (.iconst (-1), 1) := by decide +kernel
theorem dX7_legal_11 : decode cX7_legal 11 = .ok (.goto 24, 3) := by decide +kernel
theorem dX7_legal_14 : decode cX7_legal 14 = .ok (.aload_n 0, 1) := by decide +kernel
theorem dX7_legal_15 : decode cX7_legal 15 = .ok (.getfield 40, 3) := by decide +kernel
theorem dX7_legal_18 : decode cX7_legal 18 = .ok (.aload_n 2, 1) := by decide +kernel
theorem dX7_legal_19 : decode cX7_legal 19 = .ok (.getfield 137, 3) := by decide +kernel
theorem dX7_legal_22 : decode cX7_legal 22 = .ok (.getfield 141, 3) := by decide +kernel
theorem dX7_legal_25 : decode cX7_legal 25 = .ok (.aload_n 0, 1) := by decide +kernel
theorem dX7_legal_26 : decode cX7_legal 26 = .ok (.getfield 40, 3) := by decide +kernel
theorem dX7_legal_29 : decode cX7_legal 29 = .ok (.getfield 162, 3) := by decide +kernel
theorem dX7_legal_32 : decode cX7_legal 32 = .ok (.invokevirtual 165, 3) := by decide +kernel
theorem dX7_legal_35 : decode cX7_legal 35 = .ok (.ireturn, 1) := by decide +kernel
theorem dX7_borne_0 : decode cX7_borne 0 = .ok (.iload_n 1, 1) := by decide +kernel
theorem dX7_borne_1 : decode cX7_borne 1 = .ok (.iconst 1, 1) := by decide +kernel
theorem dX7_borne_2 : decode cX7_borne 2 = .ok (.if_icmp .lt 8, 3) := by decide +kernel
theorem dX7_borne_5 : decode cX7_borne 5 = .ok (.iload_n 1, 1) := by decide +kernel
theorem dX7_borne_6 : decode cX7_borne 6 = .ok (.iconst 3, 1) := by decide +kernel
theorem dX7_borne_7 : decode cX7_borne 7 = .ok (.if_icmp .le 5, 3) := by decide +kernel
theorem dX7_borne_10 : decode cX7_borne 10 = .ok (.iconst (-1), 1) := by decide +kernel
theorem dX7_borne_11 : decode cX7_borne 11 = .ok (.ireturn, 1) := by decide +kernel
theorem dX7_borne_12 : decode cX7_borne 12 = .ok (.iconst 0, 1) := by decide +kernel
theorem dX7_borne_13 : decode cX7_borne 13 = .ok (.istore_n 2, 1) := by decide +kernel
theorem dX7_borne_14 : decode cX7_borne 14 = .ok (.iload_n 2, 1) := by decide +kernel
theorem dX7_borne_15 : decode cX7_borne 15 = .ok (.iload_n 1, 1) := by decide +kernel
theorem dX7_borne_16 : decode cX7_borne 16 = .ok (.if_icmp .ge 19, 3) := by decide +kernel
theorem dX7_borne_19 : decode cX7_borne 19 = .ok (.aload_n 0, 1) := by decide +kernel
theorem dX7_borne_20 : decode cX7_borne 20 = .ok (.iload_n 2, 1) := by decide +kernel
theorem dX7_borne_21 : decode cX7_borne 21 = .ok (.invokevirtual 133, 3) := by decide +kernel
theorem dX7_borne_24 : decode cX7_borne 24 = .ok (.ifnonnull 5, 3) := by decide +kernel
theorem dX7_borne_27 : decode cX7_borne 27 = .ok (.iconst (-1), 1) := by decide +kernel
theorem dX7_borne_28 : decode cX7_borne 28 = .ok (.ireturn, 1) := by decide +kernel
theorem dX7_borne_29 : decode cX7_borne 29 = .ok (.iinc 2 1, 3) := by decide +kernel
theorem dX7_borne_32 : decode cX7_borne 32 = .ok (.goto (-18), 3) := by decide +kernel
theorem dX7_borne_35 : decode cX7_borne 35 = .ok (.iconst (-1), 1) := by decide +kernel
theorem dX7_borne_36 : decode cX7_borne 36 = .ok (.istore_n 2, 1) := by decide +kernel
theorem dX7_borne_37 : decode cX7_borne 37 = .ok (.iconst 0, 1) := by decide +kernel
theorem dX7_borne_38 : decode cX7_borne 38 = .ok (.istore_n 3, 1) := by decide +kernel
theorem dX7_borne_39 : decode cX7_borne 39 = .ok (.iload_n 3, 1) := by decide +kernel
theorem dX7_borne_40 : decode cX7_borne 40 = .ok (.iload_n 1, 1) := by decide +kernel
theorem dX7_borne_41 : decode cX7_borne 41 = .ok (.if_icmp .ge 45, 3) := by decide +kernel
theorem dX7_borne_44 : decode cX7_borne 44 = .ok (.aload_n 0, 1) := by decide +kernel
theorem dX7_borne_45 : decode cX7_borne 45 = .ok (.aload_n 0, 1) := by decide +kernel
theorem dX7_borne_46 : decode cX7_borne 46 = .ok (.getfield 46, 3) := by decide +kernel
theorem dX7_borne_49 : decode cX7_borne 49 = .ok (.iload_n 3, 1) := by decide +kernel
theorem dX7_borne_50 : decode cX7_borne 50 = .ok (.aaload, 1) := by decide +kernel
theorem dX7_borne_51 : decode cX7_borne 51 = .ok (.getfield 137, 3) := by decide +kernel
theorem dX7_borne_54 : decode cX7_borne 54 = .ok (.iload_n 1, 1) := by decide +kernel
theorem dX7_borne_55 : decode cX7_borne 55 = .ok (.invokevirtual 168, 3) := by decide +kernel
theorem dX7_borne_58 : decode cX7_borne 58 = .ok (.istore 4, 2) := by decide +kernel
theorem dX7_borne_60 : decode cX7_borne 60 = .ok (.iload 4, 2) := by decide +kernel
theorem dX7_borne_62 : decode cX7_borne 62 = .ok (.iconst (-1), 1) := by decide +kernel
theorem dX7_borne_63 : decode cX7_borne 63 = .ok (.if_icmp .eq 17, 3) := by decide +kernel
theorem dX7_borne_66 : decode cX7_borne 66 = .ok (.iload_n 2, 1) := by decide +kernel
theorem dX7_borne_67 : decode cX7_borne 67 = .ok (.iconst (-1), 1) := by decide +kernel
theorem dX7_borne_68 : decode cX7_borne 68 = .ok (.if_icmp .eq 9, 3) := by decide +kernel
theorem dX7_borne_71 : decode cX7_borne 71 = .ok (.iload 4, 2) := by decide +kernel
theorem dX7_borne_73 : decode cX7_borne 73 = .ok (.iload_n 2, 1) := by decide +kernel
theorem dX7_borne_74 : decode cX7_borne 74 = .ok (.if_icmp .ge 6, 3) := by decide +kernel
theorem dX7_borne_77 : decode cX7_borne 77 = .ok (.iload 4, 2) := by decide +kernel
theorem dX7_borne_79 : decode cX7_borne 79 = .ok (.istore_n 2, 1) := by decide +kernel
theorem dX7_borne_80 : decode cX7_borne 80 = .ok (.iinc 3 1, 3) := by decide +kernel
theorem dX7_borne_83 : decode cX7_borne 83 = .ok (.goto (-44), 3) := by decide +kernel
theorem dX7_borne_86 : decode cX7_borne 86 = .ok (.iload_n 2, 1) := by decide +kernel
theorem dX7_borne_87 : decode cX7_borne 87 = .ok (.ireturn, 1) := by decide +kernel
theorem dX7_at_0 : decode cX7_at 0 = .ok (.aload_n 0, 1) := by decide +kernel
theorem dX7_at_1 : decode cX7_at 1 = .ok (.iload_n 1, 1) := by decide +kernel
theorem dX7_at_2 : decode cX7_at 2 = .ok (.invokevirtual 133, 3) := by decide +kernel
theorem dX7_at_5 : decode cX7_at 5 = .ok (.astore 4, 2) := by decide +kernel
theorem dX7_at_7 : decode cX7_at 7 = .ok (.aload 4, 2) := by decide +kernel
theorem dX7_at_9 : decode cX7_at 9 = .ok (.ifnull 28, 3) := by decide +kernel
theorem dX7_at_12 : decode cX7_at 12 = .ok (.aload 4, 2) := by decide +kernel
theorem dX7_at_14 : decode cX7_at 14 = .ok (.iload_n 2, 1) := by decide +kernel
theorem dX7_at_15 : decode cX7_at 15 = .ok (.invokevirtual 172, 3) := by decide +kernel
theorem dX7_at_18 : decode cX7_at 18 = .ok (.ifCond .eq 19, 3) := by decide +kernel
theorem dX7_at_21 : decode cX7_at 21 = .ok (.iload_n 3, 1) := by decide +kernel
theorem dX7_at_22 : decode cX7_at 22 = .ok (.ifCond .lt 15, 3) := by decide +kernel
theorem dX7_at_25 : decode cX7_at 25 = .ok (.iload_n 3, 1) := by decide +kernel
theorem dX7_at_26 : decode cX7_at 26 = .ok (.aload 4, 2) := by decide +kernel
theorem dX7_at_28 : decode cX7_at 28 = .ok (.getfield 137, 3) := by decide +kernel
theorem dX7_at_31 : decode cX7_at 31 = .ok (.getfield 146, 3) := by decide +kernel
theorem dX7_at_34 : decode cX7_at 34 = .ok (.if_icmp .le 5, 3) := by decide +kernel
theorem dX7_at_37 : decode cX7_at 37 = .ok (.iconst (-1), 1) := by decide +kernel
theorem dX7_at_38 : decode cX7_at 38 = .ok (.ireturn, 1) := by decide +kernel
theorem dX7_at_39 : decode cX7_at 39 = .ok (.iload_n 2, 1) := by decide +kernel
theorem dX7_at_40 : decode cX7_at 40 = .ok (.istore 5, 2) := by decide +kernel
theorem dX7_at_42 : decode cX7_at 42 = .ok (.iconst 0, 1) := by decide +kernel
theorem dX7_at_43 : decode cX7_at 43 = .ok (.istore 6, 2) := by decide +kernel
theorem dX7_at_45 : decode cX7_at 45 = .ok (.iload 6, 2) := by decide +kernel
theorem dX7_at_47 : decode cX7_at 47 = .ok (.iload_n 3, 1) := by decide +kernel
theorem dX7_at_48 : decode cX7_at 48 = .ok (.if_icmp .ge 20, 3) := by decide +kernel
theorem dX7_at_51 : decode cX7_at 51 = .ok (.aload 4, 2) := by decide +kernel
theorem dX7_at_53 : decode cX7_at 53 = .ok (.iload 6, 2) := by decide +kernel
theorem dX7_at_55 : decode cX7_at 55 = .ok (.iload 5, 2) := by decide +kernel
theorem dX7_at_57 : decode cX7_at 57 = .ok (.invokevirtual 175, 3) := by decide +kernel
theorem dX7_at_60 : decode cX7_at 60 = .ok (.istore 5, 2) := by decide +kernel
theorem dX7_at_62 : decode cX7_at 62 = .ok (.iinc 6 1, 3) := by decide +kernel
theorem dX7_at_65 : decode cX7_at 65 = .ok (.goto (-20), 3) := by decide +kernel
theorem dX7_at_68 : decode cX7_at 68 = .ok (.iload 5, 2) := by decide +kernel
theorem dX7_at_70 : decode cX7_at 70 = .ok (.ireturn, 1) := by decide +kernel
theorem dX7_home_0 : decode cX7_home 0 = .ok (.aload_n 0, 1) := by decide +kernel
theorem dX7_home_1 : decode cX7_home 1 = .ok (.iload_n 1, 1) := by decide +kernel
theorem dX7_home_2 : decode cX7_home 2 = .ok (.invokevirtual 133, 3) := by decide +kernel
theorem dX7_home_5 : decode cX7_home 5 = .ok (.astore_n 3, 1) := by decide +kernel
theorem dX7_home_6 : decode cX7_home 6 = .ok (.aload_n 3, 1) := by decide +kernel
theorem dX7_home_7 : decode cX7_home 7 = .ok (.ifnull 18, 3) := by decide +kernel
theorem dX7_home_10 : decode cX7_home 10 = .ok (.iload_n 2, 1) := by decide +kernel
theorem dX7_home_11 : decode cX7_home 11 = .ok (.ifCond .lt 14, 3) := by decide +kernel
theorem dX7_home_14 : decode cX7_home 14 = .ok (.iload_n 2, 1) := by decide +kernel
theorem dX7_home_15 : decode cX7_home 15 = .ok (.aload_n 3, 1) := by decide +kernel
theorem dX7_home_16 : decode cX7_home 16 = .ok (.getfield 137, 3) := by decide +kernel
theorem dX7_home_19 : decode cX7_home 19 = .ok (.getfield 146, 3) := by decide +kernel
theorem dX7_home_22 : decode cX7_home 22 = .ok (.if_icmp .le 5, 3) := by decide +kernel
theorem dX7_home_25 : decode cX7_home 25 = .ok (.iconst (-1), 1) := by decide +kernel
theorem dX7_home_26 : decode cX7_home 26 = .ok (.ireturn, 1) := by decide +kernel
theorem dX7_home_27 : decode cX7_home 27 = .ok (.aload_n 3, 1) := by decide +kernel
theorem dX7_home_28 : decode cX7_home 28 = .ok (.iload_n 2, 1) := by decide +kernel
theorem dX7_home_29 : decode cX7_home 29 = .ok (.invokevirtual 178, 3) := by decide +kernel
theorem dX7_home_32 : decode cX7_home 32 = .ok (.istore 4, 2) := by decide +kernel
theorem dX7_home_34 : decode cX7_home 34 = .ok (.iload 4, 2) := by decide +kernel
theorem dX7_home_36 : decode cX7_home 36 = .ok (.ldc 181, 2) := by decide +kernel
theorem dX7_home_38 : decode cX7_home 38 = .ok (.if_icmp .ne 7, 3) := by decide +kernel
theorem dX7_home_41 : decode cX7_home 41 = .ok (.iconst (-1), 1) := by decide +kernel
theorem dX7_home_42 : decode cX7_home 42 = .ok (.goto 5, 3) := by decide +kernel
theorem dX7_home_45 : decode cX7_home 45 = .ok (.iload 4, 2) := by decide +kernel
theorem dX7_home_47 : decode cX7_home 47 = .ok (.ireturn, 1) := by decide +kernel
theorem dX7_lastReturn_0 : decode cX7_lastReturn 0 = .ok (.aload_n 0, 1) := by decide +kernel
theorem dX7_lastReturn_1 : decode cX7_lastReturn 1 = .ok (.iload_n 1, 1) := by decide +kernel
theorem dX7_lastReturn_2 : decode cX7_lastReturn 2 = .ok (.invokevirtual 133, 3) := by decide +kernel
theorem dX7_lastReturn_5 : decode cX7_lastReturn 5 = .ok (.astore_n 3, 1) := by decide +kernel
theorem dX7_lastReturn_6 : decode cX7_lastReturn 6 = .ok (.aload_n 3, 1) := by decide +kernel
theorem dX7_lastReturn_7 : decode cX7_lastReturn 7 = .ok (.ifnull 11, 3) := by decide +kernel
theorem dX7_lastReturn_10 : decode cX7_lastReturn 10 = .ok (.aload_n 3, 1) := by decide +kernel
theorem dX7_lastReturn_11 : decode cX7_lastReturn 11 = .ok (.iload_n 2, 1) := by decide +kernel
theorem dX7_lastReturn_12 : decode cX7_lastReturn 12 = .ok (.invokevirtual 172, 3) := by decide +kernel
theorem dX7_lastReturn_15 : decode cX7_lastReturn 15 = .ok (.ifCond .ne 5, 3) := by decide +kernel
theorem dX7_lastReturn_18 : decode cX7_lastReturn 18 = .ok (.iconst (-1), 1) := by decide +kernel
theorem dX7_lastReturn_19 : decode cX7_lastReturn 19 = .ok (.ireturn, 1) := by decide +kernel
theorem dX7_lastReturn_20 : decode cX7_lastReturn 20 = .ok (.iload_n 2, 1) := by decide +kernel
theorem dX7_lastReturn_21 : decode cX7_lastReturn 21 = .ok (.istore 4, 2) := by decide +kernel
theorem dX7_lastReturn_23 : decode cX7_lastReturn 23 = .ok (.iconst 0, 1) := by decide +kernel
theorem dX7_lastReturn_24 : decode cX7_lastReturn 24 = .ok (.istore 5, 2) := by decide +kernel
theorem dX7_lastReturn_26 : decode cX7_lastReturn 26 = .ok (.iconst 1, 1) := by decide +kernel
theorem dX7_lastReturn_27 : decode cX7_lastReturn 27 = .ok (.istore 6, 2) := by decide +kernel
theorem dX7_lastReturn_29 : decode cX7_lastReturn 29 = .ok (.iload 6, 2) := by decide +kernel
theorem dX7_lastReturn_31 : decode cX7_lastReturn 31 = .ok (.aload_n 3, 1) := by decide +kernel
theorem dX7_lastReturn_32 : decode cX7_lastReturn 32 = .ok (.getfield 137, 3) := by decide +kernel
theorem dX7_lastReturn_35 : decode cX7_lastReturn 35 = .ok (.getfield 146, 3) := by decide +kernel
theorem dX7_lastReturn_38 : decode cX7_lastReturn 38 = .ok (.if_icmp .gt 39, 3) := by decide +kernel
theorem dX7_lastReturn_41 : decode cX7_lastReturn 41 = .ok (.aload_n 3, 1) := by decide +kernel
theorem dX7_lastReturn_42 : decode cX7_lastReturn 42 = .ok (.iload 6, 2) := by decide +kernel
theorem dX7_lastReturn_44 : decode cX7_lastReturn 44 = .ok (.iconst 1, 1) := by decide +kernel
theorem dX7_lastReturn_45 : decode cX7_lastReturn 45 = .ok (.isub, 1) := by decide +kernel
theorem dX7_lastReturn_46 : decode cX7_lastReturn 46 = .ok (.iload 4, 2) := by decide +kernel
theorem dX7_lastReturn_48 : decode cX7_lastReturn 48 = .ok (.invokevirtual 175, 3) := by decide +kernel
theorem dX7_lastReturn_51 : decode cX7_lastReturn 51 = .ok (.istore 4, 2) := by decide +kernel
theorem dX7_lastReturn_53 : decode cX7_lastReturn 53 = .ok (.iload 4, 2) := by decide +kernel
theorem dX7_lastReturn_55 : decode cX7_lastReturn 55 = .ok (.aload_n 3, 1) := by decide +kernel
theorem dX7_lastReturn_56 : decode cX7_lastReturn 56 = .ok (.iload 6, 2) := by decide +kernel
theorem dX7_lastReturn_58 : decode cX7_lastReturn 58 = .ok (.invokevirtual 178, 3) := by decide +kernel
theorem dX7_lastReturn_61 : decode cX7_lastReturn 61 = .ok (.if_icmp .ge 6, 3) := by decide +kernel
theorem dX7_lastReturn_64 : decode cX7_lastReturn 64 = .ok (.goto 13, 3) := by decide +kernel
theorem dX7_lastReturn_67 : decode cX7_lastReturn 67 = .ok (.iload 6, 2) := by decide +kernel
theorem dX7_lastReturn_69 : decode cX7_lastReturn 69 = .ok (.istore 5, 2) := by decide +kernel
theorem dX7_lastReturn_71 : decode cX7_lastReturn 71 = .ok (.iinc 6 1, 3) := by decide +kernel
theorem dX7_lastReturn_74 : decode cX7_lastReturn 74 = .ok (.goto (-45), 3) := by decide +kernel
theorem dX7_lastReturn_77 : decode cX7_lastReturn 77 = .ok (.iload 5, 2) := by decide +kernel
theorem dX7_lastReturn_79 : decode cX7_lastReturn 79 = .ok (.ireturn, 1) := by decide +kernel
theorem dX7_carry_0 : decode cX7_carry 0 = .ok (.aload_n 0, 1) := by decide +kernel
theorem dX7_carry_1 : decode cX7_carry 1 = .ok (.iload_n 1, 1) := by decide +kernel
theorem dX7_carry_2 : decode cX7_carry 2 = .ok (.invokevirtual 133, 3) := by decide +kernel
theorem dX7_carry_5 : decode cX7_carry 5 = .ok (.astore 4, 2) := by decide +kernel
theorem dX7_carry_7 : decode cX7_carry 7 = .ok (.aload 4, 2) := by decide +kernel
theorem dX7_carry_9 : decode cX7_carry 9 = .ok (.ifnull 23, 3) := by decide +kernel
theorem dX7_carry_12 : decode cX7_carry 12 = .ok (.iload_n 2, 1) := by decide +kernel
theorem dX7_carry_13 : decode cX7_carry 13 = .ok (.sipush 1001, 3) := by decide +kernel
theorem dX7_carry_16 : decode cX7_carry 16 = .ok (.invokestatic 91, 3) := by decide +kernel
theorem dX7_carry_19 : decode cX7_carry 19 = .ok (.ifCond .eq 13, 3) := by decide +kernel
theorem dX7_carry_22 : decode cX7_carry 22 = .ok (.iload_n 3, 1) := by decide +kernel
theorem dX7_carry_23 : decode cX7_carry 23 = .ok (.sipush 1001, 3) := by decide +kernel
theorem dX7_carry_26 : decode cX7_carry 26 = .ok (.invokestatic 91, 3) := by decide +kernel
theorem dX7_carry_29 : decode cX7_carry 29 = .ok (.ifCond .ne 5, 3) := by decide +kernel
theorem dX7_carry_32 : decode cX7_carry 32 = .ok (.iconst (-1), 1) := by decide +kernel
theorem dX7_carry_33 : decode cX7_carry 33 = .ok (.ireturn, 1) := by decide +kernel
theorem dX7_carry_34 : decode cX7_carry 34 = .ok (.aload 4, 2) := by decide +kernel
theorem dX7_carry_36 : decode cX7_carry 36 = .ok (.iload_n 2, 1) := by decide +kernel
theorem dX7_carry_37 : decode cX7_carry 37 = .ok (.iload_n 3, 1) := by decide +kernel
theorem dX7_carry_38 : decode cX7_carry 38 = .ok (.invokevirtual 182, 3) := by decide +kernel
theorem dX7_carry_41 : decode cX7_carry 41 = .ok (.ireturn, 1) := by decide +kernel
theorem dX7_about_0 : decode cX7_about 0 = .ok (.iload_n 1, 1) := by decide +kernel
theorem dX7_about_1 : decode cX7_about 1 = .ok (.tableswitch 71 0 3 #[31, 39, 47, 63], 31) := by decide +kernel
theorem dX7_about_32 : decode cX7_about 32 = .ok (.aload_n 0, 1) := by decide +kernel
theorem dX7_about_33 : decode cX7_about 33 = .ok (.getfield 28, 3) := by decide +kernel
theorem dX7_about_36 : decode cX7_about 36 = .ok (.getfield 82, 3) := by decide +kernel
theorem dX7_about_39 : decode cX7_about 39 = .ok (.ireturn, 1) := by decide +kernel
theorem dX7_about_40 : decode cX7_about 40 = .ok (.aload_n 0, 1) := by decide +kernel
theorem dX7_about_41 : decode cX7_about 41 = .ok (.getfield 28, 3) := by decide +kernel
theorem dX7_about_44 : decode cX7_about 44 = .ok (.getfield 185, 3) := by decide +kernel
theorem dX7_about_47 : decode cX7_about 47 = .ok (.ireturn, 1) := by decide +kernel
theorem dX7_about_48 : decode cX7_about 48 = .ok (.aload_n 0, 1) := by decide +kernel
theorem dX7_about_49 : decode cX7_about 49 = .ok (.getfield 40, 3) := by decide +kernel
theorem dX7_about_52 : decode cX7_about 52 = .ok (.getfield 75, 3) := by decide +kernel
theorem dX7_about_55 : decode cX7_about 55 = .ok (.ifCond .eq 7, 3) := by decide +kernel
theorem dX7_about_58 : decode cX7_about 58 = .ok (.iconst 1, 1) := by decide +kernel
theorem dX7_about_59 : decode cX7_about 59 = .ok (.goto 4, 3) := by decide +kernel
theorem dX7_about_62 : decode cX7_about 62 = .ok (.iconst 0, 1) := by decide +kernel
theorem dX7_about_63 : decode cX7_about 63 = .ok (.ireturn, 1) := by decide +kernel
theorem dX7_about_64 : decode cX7_about 64 = .ok (.aload_n 0, 1) := by decide +kernel
theorem dX7_about_65 : decode cX7_about 65 = .ok (.getfield 12, 3) := by decide +kernel
theorem dX7_about_68 : decode cX7_about 68 = .ok (.getfield 61, 3) := by decide +kernel
theorem dX7_about_71 : decode cX7_about 71 = .ok (.ireturn, 1) := by decide +kernel
theorem dX7_about_72 : decode cX7_about 72 = .ok (.iconst (-1), 1) := by decide +kernel
theorem dX7_about_73 : decode cX7_about 73 = .ok (.ireturn, 1) := by decide +kernel
theorem dX7_forgetPlans_0 : decode cX7_forgetPlans 0 = .ok (.iconst 0, 1) := by decide +kernel
theorem dX7_forgetPlans_1 : decode cX7_forgetPlans 1 = .ok (.istore_n 1, 1) := by decide +kernel
theorem dX7_forgetPlans_2 : decode cX7_forgetPlans 2 = .ok (.iload_n 1, 1) := by decide +kernel
theorem dX7_forgetPlans_3 : decode cX7_forgetPlans 3 = .ok (.iconst 3, 1) := by decide +kernel
theorem dX7_forgetPlans_4 : decode cX7_forgetPlans 4 = .ok (.if_icmp .ge 18, 3) := by decide +kernel
theorem dX7_forgetPlans_7 : decode cX7_forgetPlans 7 = .ok (.aload_n 0, 1) := by decide +kernel
theorem dX7_forgetPlans_8 : decode cX7_forgetPlans 8 = .ok (.getfield 46, 3) := by decide +kernel
theorem dX7_forgetPlans_11 : decode cX7_forgetPlans 11 = .ok (.iload_n 1, 1) := by decide +kernel
theorem dX7_forgetPlans_12 : decode cX7_forgetPlans 12 = .ok (.aaload, 1) := by decide +kernel
theorem dX7_forgetPlans_13 : decode cX7_forgetPlans 13 = .ok (.invokevirtual 188, 3) := by decide +kernel
theorem dX7_forgetPlans_16 : decode cX7_forgetPlans 16 = .ok (.iinc 1 1, 3) := by decide +kernel
theorem dX7_forgetPlans_19 : decode cX7_forgetPlans 19 = .ok (.goto (-17), 3) := by decide +kernel
theorem dX7_forgetPlans_22 : decode cX7_forgetPlans 22 = .ok (.return_, 1) := by decide +kernel
theorem dX7_planOf_0 : decode cX7_planOf 0 = .ok (.aload_n 0, 1) := by decide +kernel
theorem dX7_planOf_1 : decode cX7_planOf 1 = .ok (.getfield 40, 3) := by decide +kernel
theorem dX7_planOf_4 : decode cX7_planOf 4 = .ok (.getfield 75, 3) := by decide +kernel
theorem dX7_planOf_7 : decode cX7_planOf 7 = .ok (.ifCond .eq 11, 3) := by decide +kernel
theorem dX7_planOf_10 : decode cX7_planOf 10 = .ok (.iload_n 1, 1) := by decide +kernel
theorem dX7_planOf_11 : decode cX7_planOf 11 = .ok (.iconst 3, 1) := by decide +kernel
theorem dX7_planOf_12 : decode cX7_planOf 12 = .ok (.invokestatic 91, 3) := by decide +kernel
theorem dX7_planOf_15 : decode cX7_planOf 15 = .ok (.ifCond .ne 5, 3) := by decide +kernel
theorem dX7_planOf_18 : decode cX7_planOf 18 = .ok (.aconst_null, 1) := by decide +kernel
theorem dX7_planOf_19 : decode cX7_planOf 19 = .ok (.areturn, 1) := by decide +kernel
theorem dX7_planOf_20 : decode cX7_planOf 20 = .ok (.aload_n 0, 1) := by decide +kernel
theorem dX7_planOf_21 : decode cX7_planOf 21 = .ok (.getfield 46, 3) := by decide +kernel
theorem dX7_planOf_24 : decode cX7_planOf 24 = .ok (.iload_n 1, 1) := by decide +kernel
theorem dX7_planOf_25 : decode cX7_planOf 25 = .ok (.aaload, 1) := by decide +kernel
theorem dX7_planOf_26 : decode cX7_planOf 26 = .ok (.astore_n 2, 1) := by decide +kernel
theorem dX7_planOf_27 : decode cX7_planOf 27 = .ok (.aload_n 2, 1) := by decide +kernel
theorem dX7_planOf_28 : decode cX7_planOf 28 = .ok (.invokevirtual 191, 3) := by decide +kernel
theorem dX7_planOf_31 : decode cX7_planOf 31 = .ok (.aload_n 2, 1) := by decide +kernel
theorem dX7_planOf_32 : decode cX7_planOf 32 = .ok (.getfield 194, 3) := by decide +kernel
theorem dX7_planOf_35 : decode cX7_planOf 35 = .ok (.ifCond .eq 7, 3) := by decide +kernel
theorem dX7_planOf_38 : decode cX7_planOf 38 = .ok (.aload_n 2, 1) := by decide +kernel
theorem dX7_planOf_39 : decode cX7_planOf 39 = .ok (.goto 4, 3) := by decide +kernel
theorem dX7_planOf_42 : decode cX7_planOf 42 = .ok (.aconst_null, 1) := by decide +kernel
theorem dX7_planOf_43 : decode cX7_planOf 43 = .ok (.areturn, 1) := by decide +kernel
theorem dX7_greatestNeed_0 : decode cX7_greatestNeed 0 = .ok (.iconst (-1), 1) := by decide +kernel
theorem dX7_greatestNeed_1 : decode cX7_greatestNeed 1 = .ok (.istore_n 3, 1) := by decide +kernel
theorem dX7_greatestNeed_2 : decode cX7_greatestNeed 2 = .ok (.iconst 0, 1) := by decide +kernel
theorem dX7_greatestNeed_3 : decode cX7_greatestNeed 3 = .ok (.istore 4, 2) := by decide +kernel
theorem dX7_greatestNeed_5 : decode cX7_greatestNeed 5 = .ok (.iload 4, 2) := by decide +kernel
theorem dX7_greatestNeed_7 : decode cX7_greatestNeed 7 = .ok (.iload_n 2, 1) := by decide +kernel
theorem dX7_greatestNeed_8 : decode cX7_greatestNeed 8 = .ok (.if_icmp .ge 44, 3) := by decide +kernel
theorem dX7_greatestNeed_11 : decode cX7_greatestNeed 11 = .ok (.aload_n 0, 1) := by decide +kernel
theorem dX7_greatestNeed_12 : decode cX7_greatestNeed 12 = .ok (.getfield 46, 3) := by decide +kernel
theorem dX7_greatestNeed_15 : decode cX7_greatestNeed 15 = .ok (.iload 4, 2) := by decide +kernel
theorem dX7_greatestNeed_17 : decode cX7_greatestNeed 17 = .ok (.aaload, 1) := by decide +kernel
theorem dX7_greatestNeed_18 : decode cX7_greatestNeed 18 = .ok (.aload_n 1, 1) := by decide +kernel
theorem dX7_greatestNeed_19 : decode cX7_greatestNeed 19 = .ok (.aload_n 0, 1) := by decide +kernel
theorem dX7_greatestNeed_20 : decode cX7_greatestNeed 20 = .ok (.getfield 40, 3) := by decide +kernel
theorem dX7_greatestNeed_23 : decode cX7_greatestNeed 23 = .ok (.getfield 162, 3) := by decide +kernel
theorem dX7_greatestNeed_26 : decode cX7_greatestNeed 26 = .ok (.invokevirtual 197, 3) := by decide +kernel
theorem dX7_greatestNeed_29 : decode cX7_greatestNeed 29 = .ok (.istore 5, 2) := by decide +kernel
theorem dX7_greatestNeed_31 : decode cX7_greatestNeed 31 = .ok (.iload 5, 2) := by decide +kernel
theorem dX7_greatestNeed_33 : decode cX7_greatestNeed 33 = .ok (.iconst (-1), 1) := by decide +kernel
theorem dX7_greatestNeed_34 : decode cX7_greatestNeed 34 = .ok (.if_icmp .ne 5, 3) := by decide +kernel
theorem dX7_greatestNeed_37 : decode cX7_greatestNeed 37 = .ok (.iconst (-1), 1) := by decide +kernel
theorem dX7_greatestNeed_38 : decode cX7_greatestNeed 38 = .ok (.ireturn, 1) := by decide +kernel
theorem dX7_greatestNeed_39 : decode cX7_greatestNeed 39 = .ok (.iload_n 3, 1) := by decide +kernel
theorem dX7_greatestNeed_40 : decode cX7_greatestNeed 40 = .ok (.iload 5, 2) := by decide +kernel
theorem dX7_greatestNeed_42 : decode cX7_greatestNeed 42 = .ok (.invokestatic 200, 3) := by decide +kernel
theorem dX7_greatestNeed_45 : decode cX7_greatestNeed 45 = .ok (.istore_n 3, 1) := by decide +kernel
theorem dX7_greatestNeed_46 : decode cX7_greatestNeed 46 = .ok (.iinc 4 1, 3) := by decide +kernel
theorem dX7_greatestNeed_49 : decode cX7_greatestNeed 49 = .ok (.goto (-44), 3) := by decide +kernel
theorem dX7_greatestNeed_52 : decode cX7_greatestNeed 52 = .ok (.iload_n 3, 1) := by decide +kernel
theorem dX7_greatestNeed_53 : decode cX7_greatestNeed 53 = .ok (.ireturn, 1) := by decide +kernel
theorem dX7_within_0 : decode cX7_within 0 = .ok (.iload_n 0, 1) := by decide +kernel
theorem dX7_within_1 : decode cX7_within 1 = .ok (.ifCond .lt 12, 3) := by decide +kernel
theorem dX7_within_4 : decode cX7_within 4 = .ok (.iload_n 0, 1) := by decide +kernel
theorem dX7_within_5 : decode cX7_within 5 = .ok (.iload_n 1, 1) := by decide +kernel
theorem dX7_within_6 : decode cX7_within 6 = .ok (.if_icmp .ge 7, 3) := by decide +kernel
theorem dX7_within_9 : decode cX7_within 9 = .ok (.iconst 1, 1) := by decide +kernel
theorem dX7_within_10 : decode cX7_within 10 = .ok (.goto 4, 3) := by decide +kernel
theorem dX7_within_13 : decode cX7_within 13 = .ok (.iconst 0, 1) := by decide +kernel
theorem dX7_within_14 : decode cX7_within 14 = .ok (.ireturn, 1) := by decide +kernel
theorem dX7_windIndex_0 : decode cX7_windIndex 0 = .ok (.iload_n 0, 1) := by decide +kernel
theorem dX7_windIndex_1 : decode cX7_windIndex 1 = .ok (.bipush 6, 2) := by decide +kernel
theorem dX7_windIndex_3 : decode cX7_windIndex 3 = .ok (.imul, 1) := by decide +kernel
theorem dX7_windIndex_4 : decode cX7_windIndex 4 = .ok (.iload_n 1, 1) := by decide +kernel
theorem dX7_windIndex_5 : decode cX7_windIndex 5 = .ok (.iadd, 1) := by decide +kernel
theorem dX7_windIndex_6 : decode cX7_windIndex 6 = .ok (.bipush 16, 2) := by decide +kernel
theorem dX7_windIndex_8 : decode cX7_windIndex 8 = .ok (.imul, 1) := by decide +kernel
theorem dX7_windIndex_9 : decode cX7_windIndex 9 = .ok (.iload_n 2, 1) := by decide +kernel
theorem dX7_windIndex_10 : decode cX7_windIndex 10 = .ok (.iadd, 1) := by decide +kernel
theorem dX7_windIndex_11 : decode cX7_windIndex 11 = .ok (.ireturn, 1) := by decide +kernel
theorem dX7_burnIndex_0 : decode cX7_burnIndex 0 = .ok (.iload_n 0, 1) := by decide +kernel
theorem dX7_burnIndex_1 : decode cX7_burnIndex 1 = .ok (.iconst 5, 1) := by decide +kernel
theorem dX7_burnIndex_2 : decode cX7_burnIndex 2 = .ok (.imul, 1) := by decide +kernel
theorem dX7_burnIndex_3 : decode cX7_burnIndex 3 = .ok (.iload_n 1, 1) := by decide +kernel
theorem dX7_burnIndex_4 : decode cX7_burnIndex 4 = .ok (.iadd, 1) := by decide +kernel
theorem dX7_burnIndex_5 : decode cX7_burnIndex 5 = .ok (.ireturn, 1) := by decide +kernel
theorem dX7_legIndex_0 : decode cX7_legIndex 0 = .ok (.iload_n 0, 1) := by decide +kernel
theorem dX7_legIndex_1 : decode cX7_legIndex 1 = .ok (.bipush 6, 2) := by decide +kernel
theorem dX7_legIndex_3 : decode cX7_legIndex 3 = .ok (.imul, 1) := by decide +kernel
theorem dX7_legIndex_4 : decode cX7_legIndex 4 = .ok (.iload_n 1, 1) := by decide +kernel
theorem dX7_legIndex_5 : decode cX7_legIndex 5 = .ok (.iadd, 1) := by decide +kernel
theorem dX7_legIndex_6 : decode cX7_legIndex 6 = .ok (.ireturn, 1) := by decide +kernel
theorem dX7_stageIndex_0 : decode cX7_stageIndex 0 = .ok (.iload_n 0, 1) := by decide +kernel
theorem dX7_stageIndex_1 : decode cX7_stageIndex 1 = .ok (.bipush 7, 2) := by decide +kernel
theorem dX7_stageIndex_3 : decode cX7_stageIndex 3 = .ok (.imul, 1) := by decide +kernel
theorem dX7_stageIndex_4 : decode cX7_stageIndex 4 = .ok (.iload_n 1, 1) := by decide +kernel
theorem dX7_stageIndex_5 : decode cX7_stageIndex 5 = .ok (.iadd, 1) := by decide +kernel
theorem dX7_stageIndex_6 : decode cX7_stageIndex 6 = .ok (.ireturn, 1) := by decide +kernel
theorem dX8_sign_0 : decode cX8_sign 0 = .ok (.iload_n 1, 1) := by decide +kernel
theorem dX8_sign_1 : decode cX8_sign 1 = .ok (.aload_n 0, 1) := by decide +kernel
theorem dX8_sign_2 : decode cX8_sign 2 = .ok (.getfield 1, 3) := by decide +kernel
theorem dX8_sign_5 : decode cX8_sign 5 = .ok (.if_icmp .ge 16, 3) := by decide +kernel
theorem dX8_sign_8 : decode cX8_sign 8 = .ok (.aload_n 0, 1) := by decide +kernel
theorem dX8_sign_9 : decode cX8_sign 9 = .ok (.getfield 7, 3) := by decide +kernel
theorem dX8_sign_12 : decode cX8_sign 12 = .ok (.iload_n 1, 1) := by decide +kernel
theorem dX8_sign_13 : decode cX8_sign 13 = .ok (.baload, 1) := by decide +kernel
theorem dX8_sign_14 : decode cX8_sign 14 = .ok (.sipush 255, 3) := by decide +kernel
theorem dX8_sign_17 : decode cX8_sign 17 = .ok (.iand, 1) := by decide +kernel
theorem dX8_sign_18 : decode cX8_sign 18 = .ok (.goto 4, 3) := by decide +kernel
theorem dX8_sign_21 : decode cX8_sign 21 = .ok (.iconst 0, 1) := by decide +kernel
theorem dX8_sign_22 : decode cX8_sign 22 = .ok (.ireturn, 1) := by decide +kernel
theorem dX8_isLetter_0 : decode cX8_isLetter 0 = .ok (.iload_n 0, 1) := by decide +kernel
theorem dX8_isLetter_1 : decode cX8_isLetter 1 = .ok (.bipush 97, 2) := by decide +kernel
theorem dX8_isLetter_3 : decode cX8_isLetter 3 = .ok (.if_icmp .lt 13, 3) := by decide +kernel
theorem dX8_isLetter_6 : decode cX8_isLetter 6 = .ok (.iload_n 0, 1) := by decide +kernel
theorem dX8_isLetter_7 : decode cX8_isLetter 7 = .ok (.bipush 122, 2) := by decide +kernel
theorem dX8_isLetter_9 : decode cX8_isLetter 9 = .ok (.if_icmp .gt 7, 3) := by decide +kernel
theorem dX8_isLetter_12 : decode cX8_isLetter 12 = .ok (.iconst 1, 1) := by decide +kernel
