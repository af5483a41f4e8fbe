theorem dX8_wind_55 : decode cX8_wind 55 = .ok (.iload_n 3, 1) := by decide +kernel
theorem dX8_wind_56 : decode cX8_wind 56 = .ok (.invokestatic 201, 3) := by decide +kernel
theorem dX8_wind_59 : decode cX8_wind 59 = .ok (.iaload, 1) := by decide +kernel
theorem dX8_wind_60 : decode cX8_wind 60 = .ok (.ireturn, 1) := by decide +kernel
theorem dX8_burn_0 : decode cX8_burn 0 = .ok (.bipush 30, 2) := by decide +kernel
theorem dX8_burn_2 : decode cX8_burn 2 = .ok (.aload_n 0, 1) := by decide +kernel
theorem dX8_burn_3 : decode cX8_burn 3 = .ok (.getfield 124, 3) := by decide +kernel
theorem dX8_burn_6 : decode cX8_burn 6 = .ok (.imul, 1) := by decide +kernel
theorem dX8_burn_7 : decode cX8_burn 7 = .ok (.iconst 5, 1) := by decide +kernel
theorem dX8_burn_8 : decode cX8_burn 8 = .ok (.iload_n 1, 1) := by decide +kernel
theorem dX8_burn_9 : decode cX8_burn 9 = .ok (.imul, 1) := by decide +kernel
theorem dX8_burn_10 : decode cX8_burn 10 = .ok (.iadd, 1) := by decide +kernel
theorem dX8_burn_11 : decode cX8_burn 11 = .ok (.istore_n 3, 1) := by decide +kernel
theorem dX8_burn_12 : decode cX8_burn 12 = .ok (.iload_n 2, 1) := by decide +kernel
theorem dX8_burn_13 : decode cX8_burn 13 = .ok (.istore 4, 2) := by decide +kernel
theorem dX8_burn_15 : decode cX8_burn 15 = .ok (.iload 4, 2) := by decide +kernel
theorem dX8_burn_17 : decode cX8_burn 17 = .ok (.ifCond .lt 23, 3) := by decide +kernel
theorem dX8_burn_20 : decode cX8_burn 20 = .ok (.aload_n 0, 1) := by decide +kernel
theorem dX8_burn_21 : decode cX8_burn 21 = .ok (.getfield 95, 3) := by decide +kernel
theorem dX8_burn_24 : decode cX8_burn 24 = .ok (.iload_n 3, 1) := by decide +kernel
theorem dX8_burn_25 : decode cX8_burn 25 = .ok (.iload 4, 2) := by decide +kernel
theorem dX8_burn_27 : decode cX8_burn 27 = .ok (.iadd, 1) := by decide +kernel
theorem dX8_burn_28 : decode cX8_burn 28 = .ok (.iaload, 1) := by decide +kernel
theorem dX8_burn_29 : decode cX8_burn 29 = .ok (.ldc 120, 2) := by decide +kernel
theorem dX8_burn_31 : decode cX8_burn 31 = .ok (.if_icmp .ne 9, 3) := by decide +kernel
theorem dX8_burn_34 : decode cX8_burn 34 = .ok (.iinc 4 (-1), 3) := by decide +kernel
theorem dX8_burn_37 : decode cX8_burn 37 = .ok (.goto (-22), 3) := by decide +kernel
theorem dX8_burn_40 : decode cX8_burn 40 = .ok (.iload 4, 2) := by decide +kernel
theorem dX8_burn_42 : decode cX8_burn 42 = .ok (.ifCond .lt 13, 3) := by decide +kernel
theorem dX8_burn_45 : decode cX8_burn 45 = .ok (.aload_n 0, 1) := by decide +kernel
theorem dX8_burn_46 : decode cX8_burn 46 = .ok (.getfield 95, 3) := by decide +kernel
theorem dX8_burn_49 : decode cX8_burn 49 = .ok (.iload_n 3, 1) := by decide +kernel
theorem dX8_burn_50 : decode cX8_burn 50 = .ok (.iload 4, 2) := by decide +kernel
theorem dX8_burn_52 : decode cX8_burn 52 = .ok (.iadd, 1) := by decide +kernel
theorem dX8_burn_53 : decode cX8_burn 53 = .ok (.iaload, 1) := by decide +kernel
theorem dX8_burn_54 : decode cX8_burn 54 = .ok (.ireturn, 1) := by decide +kernel
theorem dX8_burn_55 : decode cX8_burn 55 = .ok (.iload_n 2, 1) := by decide +kernel
theorem dX8_burn_56 : decode cX8_burn 56 = .ok (.istore 4, 2) := by decide +kernel
theorem dX8_burn_58 : decode cX8_burn 58 = .ok (.iload 4, 2) := by decide +kernel
theorem dX8_burn_60 : decode cX8_burn 60 = .ok (.iconst 5, 1) := by decide +kernel
theorem dX8_burn_61 : decode cX8_burn 61 = .ok (.if_icmp .ge 23, 3) := by decide +kernel
theorem dX8_burn_64 : decode cX8_burn 64 = .ok (.aload_n 0, 1) := by decide +kernel
theorem dX8_burn_65 : decode cX8_burn 65 = .ok (.getfield 95, 3) := by decide +kernel
theorem dX8_burn_68 : decode cX8_burn 68 = .ok (.iload_n 3, 1) := by decide +kernel
theorem dX8_burn_69 : decode cX8_burn 69 = .ok (.iload 4, 2) := by decide +kernel
theorem dX8_burn_71 : decode cX8_burn 71 = .ok (.iadd, 1) := by decide +kernel
theorem dX8_burn_72 : decode cX8_burn 72 = .ok (.iaload, 1) := by decide +kernel
theorem dX8_burn_73 : decode cX8_burn 73 = .ok (.ldc 120, 2) := by decide +kernel
theorem dX8_burn_75 : decode cX8_burn 75 = .ok (.if_icmp .ne 9, 3) := by decide +kernel
theorem dX8_burn_78 : decode cX8_burn 78 = .ok (.iinc 4 1, 3) := by decide +kernel
theorem dX8_burn_81 : decode cX8_burn 81 = .ok (.goto (-23), 3) := by decide +kernel
theorem dX8_burn_84 : decode cX8_burn 84 = .ok (.iload 4, 2) := by decide +kernel
theorem dX8_burn_86 : decode cX8_burn 86 = .ok (.iconst 5, 1) := by decide +kernel
theorem dX8_burn_87 : decode cX8_burn 87 = .ok (.if_icmp .ge 15, 3) := by decide +kernel
theorem dX8_burn_90 : decode cX8_burn 90 = .ok (.aload_n 0, 1) := by decide +kernel
theorem dX8_burn_91 : decode cX8_burn 91 = .ok (.getfield 95, 3) := by decide +kernel
theorem dX8_burn_94 : decode cX8_burn 94 = .ok (.iload_n 3, 1) := by decide +kernel
theorem dX8_burn_95 : decode cX8_burn 95 = .ok (.iload 4, 2) := by decide +kernel
theorem dX8_burn_97 : decode cX8_burn 97 = .ok (.iadd, 1) := by decide +kernel
theorem dX8_burn_98 : decode cX8_burn 98 = .ok (.iaload, 1) := by decide +kernel
theorem dX8_burn_99 : decode cX8_burn 99 = .ok (.goto 6, 3) := by decide +kernel
theorem dX8_burn_102 : decode cX8_burn 102 = .ok (.sipush 1000, 3) := by decide +kernel
theorem dX8_burn_105 : decode cX8_burn 105 = .ok (.ireturn, 1) := by decide +kernel
theorem dX8_climb_0 : decode cX8_climb 0 = .ok (.aload_n 0, 1) := by decide +kernel
theorem dX8_climb_1 : decode cX8_climb 1 = .ok (.getfield 98, 3) := by decide +kernel
theorem dX8_climb_4 : decode cX8_climb 4 = .ok (.bipush 6, 2) := by decide +kernel
theorem dX8_climb_6 : decode cX8_climb 6 = .ok (.aload_n 0, 1) := by decide +kernel
theorem dX8_climb_7 : decode cX8_climb 7 = .ok (.getfield 124, 3) := by decide +kernel
theorem dX8_climb_10 : decode cX8_climb 10 = .ok (.imul, 1) := by decide +kernel
theorem dX8_climb_11 : decode cX8_climb 11 = .ok (.iload_n 1, 1) := by decide +kernel
theorem dX8_climb_12 : decode cX8_climb 12 = .ok (.iadd, 1) := by decide +kernel
theorem dX8_climb_13 : decode cX8_climb 13 = .ok (.iaload, 1) := by decide +kernel
theorem dX8_climb_14 : decode cX8_climb 14 = .ok (.ldc 120, 2) := by decide +kernel
theorem dX8_climb_16 : decode cX8_climb 16 = .ok (.if_icmp .ne 7, 3) := by decide +kernel
theorem dX8_climb_19 : decode cX8_climb 19 = .ok (.iconst 0, 1) := by decide +kernel
theorem dX8_climb_20 : decode cX8_climb 20 = .ok (.goto 17, 3) := by decide +kernel
theorem dX8_climb_23 : decode cX8_climb 23 = .ok (.aload_n 0, 1) := by decide +kernel
theorem dX8_climb_24 : decode cX8_climb 24 = .ok (.getfield 98, 3) := by decide +kernel
theorem dX8_climb_27 : decode cX8_climb 27 = .ok (.bipush 6, 2) := by decide +kernel
theorem dX8_climb_29 : decode cX8_climb 29 = .ok (.aload_n 0, 1) := by decide +kernel
theorem dX8_climb_30 : decode cX8_climb 30 = .ok (.getfield 124, 3) := by decide +kernel
theorem dX8_climb_33 : decode cX8_climb 33 = .ok (.imul, 1) := by decide +kernel
theorem dX8_climb_34 : decode cX8_climb 34 = .ok (.iload_n 1, 1) := by decide +kernel
theorem dX8_climb_35 : decode cX8_climb 35 = .ok (.iadd, 1) := by decide +kernel
theorem dX8_climb_36 : decode cX8_climb 36 = .ok (.iaload, 1) := by decide +kernel
theorem dX8_climb_37 : decode cX8_climb 37 = .ok (.ireturn, 1) := by decide +kernel
theorem dX8_limit_0 : decode cX8_limit 0 = .ok (.aload_n 0, 1) := by decide +kernel
theorem dX8_limit_1 : decode cX8_limit 1 = .ok (.getfield 101, 3) := by decide +kernel
theorem dX8_limit_4 : decode cX8_limit 4 = .ok (.iconst 4, 1) := by decide +kernel
theorem dX8_limit_5 : decode cX8_limit 5 = .ok (.aload_n 0, 1) := by decide +kernel
theorem dX8_limit_6 : decode cX8_limit 6 = .ok (.getfield 124, 3) := by decide +kernel
theorem dX8_limit_9 : decode cX8_limit 9 = .ok (.imul, 1) := by decide +kernel
theorem dX8_limit_10 : decode cX8_limit 10 = .ok (.iload_n 1, 1) := by decide +kernel
theorem dX8_limit_11 : decode cX8_limit 11 = .ok (.iadd, 1) := by decide +kernel
theorem dX8_limit_12 : decode cX8_limit 12 = .ok (.iaload, 1) := by decide +kernel
theorem dX8_limit_13 : decode cX8_limit 13 = .ok (.istore_n 2, 1) := by decide +kernel
theorem dX8_limit_14 : decode cX8_limit 14 = .ok (.iload_n 2, 1) := by decide +kernel
theorem dX8_limit_15 : decode cX8_limit 15 = .ok (.ldc 120, 2) := by decide +kernel
theorem dX8_limit_17 : decode cX8_limit 17 = .ok (.if_icmp .eq 7, 3) := by decide +kernel
theorem dX8_limit_20 : decode cX8_limit 20 = .ok (.iload_n 2, 1) := by decide +kernel
theorem dX8_limit_21 : decode cX8_limit 21 = .ok (.goto 24, 3) := by decide +kernel
theorem dX8_limit_24 : decode cX8_limit 24 = .ok (.iload_n 1, 1) := by decide +kernel
theorem dX8_limit_25 : decode cX8_limit 25 = .ok (.ifCond .ne 9, 3) := by decide +kernel
theorem dX8_limit_28 : decode cX8_limit 28 = .ok (.sipush 30000, 3) := by decide +kernel
theorem dX8_limit_31 : decode cX8_limit 31 = .ok (.goto 14, 3) := by decide +kernel
theorem dX8_limit_34 : decode cX8_limit 34 = .ok (.iload_n 1, 1) := by decide +kernel
theorem dX8_limit_35 : decode cX8_limit 35 = .ok (.iconst 3, 1) := by decide +kernel
theorem dX8_limit_36 : decode cX8_limit 36 = .ok (.if_icmp .ne 7, 3) := by decide +kernel
theorem dX8_limit_39 : decode cX8_limit 39 = .ok (.iconst 0, 1) := by decide +kernel
theorem dX8_limit_40 : decode cX8_limit 40 = .ok (.goto 5, 3) := by decide +kernel
theorem dX8_limit_43 : decode cX8_limit 43 = .ok (.ldc 176, 2) := by decide +kernel
theorem dX8_limit_45 : decode cX8_limit 45 = .ok (.ireturn, 1) := by decide +kernel
theorem dX8_isLevel_0 : decode cX8_isLevel 0 = .ok (.iload_n 0, 1) := by decide +kernel
theorem dX8_isLevel_1 : decode cX8_isLevel 1 = .ok (.ifCond .lt 13, 3) := by decide +kernel
theorem dX8_isLevel_4 : decode cX8_isLevel 4 = .ok (.iload_n 0, 1) := by decide +kernel
theorem dX8_isLevel_5 : decode cX8_isLevel 5 = .ok (.bipush 6, 2) := by decide +kernel
theorem dX8_isLevel_7 : decode cX8_isLevel 7 = .ok (.if_icmp .ge 7, 3) := by decide +kernel
theorem dX8_isLevel_10 : decode cX8_isLevel 10 = .ok (.iconst 1, 1) := by decide +kernel
theorem dX8_isLevel_11 : decode cX8_isLevel 11 = .ok (.goto 4, 3) := by decide +kernel
theorem dX8_isLevel_14 : decode cX8_isLevel 14 = .ok (.iconst 0, 1) := by decide +kernel
theorem dX8_isLevel_15 : decode cX8_isLevel 15 = .ok (.ireturn, 1) := by decide +kernel
theorem dX8_isWorld_0 : decode cX8_isWorld 0 = .ok (.iload_n 0, 1) := by decide +kernel
theorem dX8_isWorld_1 : decode cX8_isWorld 1 = .ok (.ifCond .lt 12, 3) := by decide +kernel
theorem dX8_isWorld_4 : decode cX8_isWorld 4 = .ok (.iload_n 0, 1) := by decide +kernel
theorem dX8_isWorld_5 : decode cX8_isWorld 5 = .ok (.iconst 3, 1) := by decide +kernel
theorem dX8_isWorld_6 : decode cX8_isWorld 6 = .ok (.if_icmp .ge 7, 3) := by decide +kernel
theorem dX8_isWorld_9 : decode cX8_isWorld 9 = .ok (.iconst 1, 1) := by decide +kernel
theorem dX8_isWorld_10 : decode cX8_isWorld 10 = .ok (.goto 4, 3) := by decide +kernel
theorem dX8_isWorld_13 : decode cX8_isWorld 13 = .ok (.iconst 0, 1) := by decide +kernel
theorem dX8_isWorld_14 : decode cX8_isWorld 14 = .ok (.ireturn, 1) := by decide +kernel
theorem dX8_isLeg_0 : decode cX8_isLeg 0 = .ok (.iload_n 1, 1) := by decide +kernel
theorem dX8_isLeg_1 : decode cX8_isLeg 1 = .ok (.ifCond .lt 20, 3) := by decide +kernel
theorem dX8_isLeg_4 : decode cX8_isLeg 4 = .ok (.iload_n 1, 1) := by decide +kernel
theorem dX8_isLeg_5 : decode cX8_isLeg 5 = .ok (.aload_n 0, 1) := by decide +kernel
theorem dX8_isLeg_6 : decode cX8_isLeg 6 = .ok (.getfield 65, 3) := by decide +kernel
theorem dX8_isLeg_9 : decode cX8_isLeg 9 = .ok (.aload_n 0, 1) := by decide +kernel
theorem dX8_isLeg_10 : decode cX8_isLeg 10 = .ok (.getfield 124, 3) := by decide +kernel
theorem dX8_isLeg_13 : decode cX8_isLeg 13 = .ok (.iaload, 1) := by decide +kernel
theorem dX8_isLeg_14 : decode cX8_isLeg 14 = .ok (.if_icmp .ge 7, 3) := by decide +kernel
theorem dX8_isLeg_17 : decode cX8_isLeg 17 = .ok (.iconst 1, 1) := by decide +kernel
theorem dX8_isLeg_18 : decode cX8_isLeg 18 = .ok (.goto 4, 3) := by decide +kernel
theorem dX8_isLeg_21 : decode cX8_isLeg 21 = .ok (.iconst 0, 1) := by decide +kernel
theorem dX8_isLeg_22 : decode cX8_isLeg 22 = .ok (.ireturn, 1) := by decide +kernel
theorem dX8_told_0 : decode cX8_told 0 = .ok (.iload_n 1, 1) := by decide +kernel
theorem dX8_told_1 : decode cX8_told 1 = .ok (.tableswitch 160 0 7 #[47, 66, 104, 133, 152, 152, 152, 152], 47) := by decide +kernel
theorem dX8_told_48 : decode cX8_told 48 = .ok (.iload_n 2, 1) := by decide +kernel
theorem dX8_told_49 : decode cX8_told 49 = .ok (.invokestatic 205, 3) := by decide +kernel
theorem dX8_told_52 : decode cX8_told 52 = .ok (.ifCond .eq 11, 3) := by decide +kernel
theorem dX8_told_55 : decode cX8_told 55 = .ok (.aload_n 0, 1) := by decide +kernel
theorem dX8_told_56 : decode cX8_told 56 = .ok (.iload_n 2, 1) := by decide +kernel
theorem dX8_told_57 : decode cX8_told 57 = .ok (.invokevirtual 208, 3) := by decide +kernel
theorem dX8_told_60 : decode cX8_told 60 = .ok (.goto 6, 3) := by decide +kernel
theorem dX8_told_63 : decode cX8_told 63 = .ok (.sipush (-1000), 3) := by decide +kernel
theorem dX8_told_66 : decode cX8_told 66 = .ok (.ireturn, 1) := by decide +kernel
theorem dX8_told_67 : decode cX8_told 67 = .ok (.iload_n 2, 1) := by decide +kernel
theorem dX8_told_68 : decode cX8_told 68 = .ok (.invokestatic 211, 3) := by decide +kernel
theorem dX8_told_71 : decode cX8_told 71 = .ok (.ifCond .eq 30, 3) := by decide +kernel
theorem dX8_told_74 : decode cX8_told 74 = .ok (.iload_n 3, 1) := by decide +kernel
theorem dX8_told_75 : decode cX8_told 75 = .ok (.invokestatic 205, 3) := by decide +kernel
theorem dX8_told_78 : decode cX8_told 78 = .ok (.ifCond .eq 23, 3) := by decide +kernel
theorem dX8_told_81 : decode cX8_told 81 = .ok (.aload_n 0, 1) := by decide +kernel
theorem dX8_told_82 : decode cX8_told 82 = .ok (.iload 4, 2) := by decide +kernel
theorem dX8_told_84 : decode cX8_told 84 = .ok (.invokevirtual 214, 3) := by decide +kernel
theorem dX8_told_87 : decode cX8_told 87 = .ok (.ifCond .eq 14, 3) := by decide +kernel
theorem dX8_told_90 : decode cX8_told 90 = .ok (.aload_n 0, 1) := by decide +kernel
theorem dX8_told_91 : decode cX8_told 91 = .ok (.iload_n 2, 1) := by decide +kernel
theorem dX8_told_92 : decode cX8_told 92 = .ok (.iload_n 3, 1) := by decide +kernel
theorem dX8_told_93 : decode cX8_told 93 = .ok (.iload 4, 2) := by decide +kernel
theorem dX8_told_95 : decode cX8_told 95 = .ok (.invokevirtual 217, 3) := by decide +kernel
theorem dX8_told_98 : decode cX8_told 98 = .ok (.goto 6, 3) := by decide +kernel
theorem dX8_told_101 : decode cX8_told 101 = .ok (.sipush (-1000), 3) := by decide +kernel
theorem dX8_told_104 : decode cX8_told 104 = .ok (.ireturn, 1) := by decide +kernel
theorem dX8_told_105 : decode cX8_told 105 = .ok (.iload_n 2, 1) := by decide +kernel
theorem dX8_told_106 : decode cX8_told 106 = .ok (.invokestatic 205, 3) := by decide +kernel
theorem dX8_told_109 : decode cX8_told 109 = .ok (.ifCond .eq 21, 3) := by decide +kernel
theorem dX8_told_112 : decode cX8_told 112 = .ok (.iload_n 3, 1) := by decide +kernel
theorem dX8_told_113 : decode cX8_told 113 = .ok (.ifCond .lt 17, 3) := by decide +kernel
theorem dX8_told_116 : decode cX8_told 116 = .ok (.iload_n 3, 1) := by decide +kernel
theorem dX8_told_117 : decode cX8_told 117 = .ok (.iconst 5, 1) := by decide +kernel
theorem dX8_told_118 : decode cX8_told 118 = .ok (.if_icmp .ge 12, 3) := by decide +kernel
theorem dX8_told_121 : decode cX8_told 121 = .ok (.aload_n 0, 1) := by decide +kernel
theorem dX8_told_122 : decode cX8_told 122 = .ok (.iload_n 2, 1) := by decide +kernel
theorem dX8_told_123 : decode cX8_told 123 = .ok (.iload_n 3, 1) := by decide +kernel
theorem dX8_told_124 : decode cX8_told 124 = .ok (.invokevirtual 221, 3) := by decide +kernel
theorem dX8_told_127 : decode cX8_told 127 = .ok (.goto 6, 3) := by decide +kernel
theorem dX8_told_130 : decode cX8_told 130 = .ok (.sipush (-1000), 3) := by decide +kernel
theorem dX8_told_133 : decode cX8_told 133 = .ok (.ireturn, 1) := by decide +kernel
theorem dX8_told_134 : decode cX8_told 134 = .ok (.iload_n 2, 1) := by decide +kernel
theorem dX8_told_135 : decode cX8_told 135 = .ok (.invokestatic 205, 3) := by decide +kernel
theorem dX8_told_138 : decode cX8_told 138 = .ok (.ifCond .eq 11, 3) := by decide +kernel
theorem dX8_told_141 : decode cX8_told 141 = .ok (.aload_n 0, 1) := by decide +kernel
theorem dX8_told_142 : decode cX8_told 142 = .ok (.iload_n 2, 1) := by decide +kernel
theorem dX8_told_143 : decode cX8_told 143 = .ok (.invokevirtual 224, 3) := by decide +kernel
theorem dX8_told_146 : decode cX8_told 146 = .ok (.goto 6, 3) := by decide +kernel
theorem dX8_told_149 : decode cX8_told 149 = .ok (.sipush (-1000), 3) := by decide +kernel
theorem dX8_told_152 : decode cX8_told 152 = .ok (.ireturn, 1) := by decide +kernel
theorem dX8_told_153 : decode cX8_told 153 = .ok (.aload_n 0, 1) := by decide +kernel
theorem dX8_told_154 : decode cX8_told 154 = .ok (.iload_n 1, 1) := by decide +kernel
theorem dX8_told_155 : decode cX8_told 155 = .ok (.iconst 4, 1) := by decide +kernel
theorem dX8_told_156 : decode cX8_told 156 = .ok (.isub, 1) := by decide +kernel
theorem dX8_told_157 : decode cX8_told 157 = .ok (.invokevirtual 227, 3) := by decide +kernel
theorem dX8_told_160 : decode cX8_told 160 = .ok (.ireturn, 1) := by decide +kernel
theorem dX8_told_161 : decode cX8_told 161 = .ok (.sipush (-1000), 3) := by decide +kernel
theorem dX8_told_164 : decode cX8_told 164 = .ok (.ireturn, 1) := by decide +kernel
theorem dX8_isPoint_0 : decode cX8_isPoint 0 = .ok (.iload_n 0, 1) := by decide +kernel
theorem dX8_isPoint_1 : decode cX8_isPoint 1 = .ok (.ifCond .lt 13, 3) := by decide +kernel
theorem dX8_isPoint_4 : decode cX8_isPoint 4 = .ok (.iload_n 0, 1) := by decide +kernel
theorem dX8_isPoint_5 : decode cX8_isPoint 5 = .ok (.bipush 10, 2) := by decide +kernel
theorem dX8_isPoint_7 : decode cX8_isPoint 7 = .ok (.if_icmp .ge 7, 3) := by decide +kernel
theorem dX8_isPoint_10 : decode cX8_isPoint 10 = .ok (.iconst 1, 1) := by decide +kernel
theorem dX8_isPoint_11 : decode cX8_isPoint 11 = .ok (.goto 4, 3) := by decide +kernel
theorem dX8_isPoint_14 : decode cX8_isPoint 14 = .ok (.iconst 0, 1) := by decide +kernel
theorem dX8_isPoint_15 : decode cX8_isPoint 15 = .ok (.ireturn, 1) := by decide +kernel
theorem dX8_flight_0 : decode cX8_flight 0 = .ok (.iload_n 1, 1) := by decide +kernel
theorem dX8_flight_1 : decode cX8_flight 1 = .ok (.invokestatic 230, 3) := by decide +kernel
theorem dX8_flight_4 : decode cX8_flight 4 = .ok (.ifCond .eq 52, 3) := by decide +kernel
theorem dX8_flight_7 : decode cX8_flight 7 = .ok (.iload_n 2, 1) := by decide +kernel
theorem dX8_flight_8 : decode cX8_flight 8 = .ok (.invokestatic 230, 3) := by decide +kernel
theorem dX8_flight_11 : decode cX8_flight 11 = .ok (.ifCond .eq 45, 3) := by decide +kernel
theorem dX8_flight_14 : decode cX8_flight 14 = .ok (.iload_n 1, 1) := by decide +kernel
theorem dX8_flight_15 : decode cX8_flight 15 = .ok (.iload_n 2, 1) := by decide +kernel
theorem dX8_flight_16 : decode cX8_flight 16 = .ok (.if_icmp .eq 40, 3) := by decide +kernel
theorem dX8_flight_19 : decode cX8_flight 19 = .ok (.iload_n 3, 1) := by decide +kernel
theorem dX8_flight_20 : decode cX8_flight 20 = .ok (.ifCond .lt 36, 3) := by decide +kernel
theorem dX8_flight_23 : decode cX8_flight 23 = .ok (.iload_n 3, 1) := by decide +kernel
theorem dX8_flight_24 : decode cX8_flight 24 = .ok (.sipush 999, 3) := by decide +kernel
theorem dX8_flight_27 : decode cX8_flight 27 = .ok (.if_icmp .gt 29, 3) := by decide +kernel
theorem dX8_flight_30 : decode cX8_flight 30 = .ok (.iload 4, 2) := by decide +kernel
theorem dX8_flight_32 : decode cX8_flight 32 = .ok (.ifCond .lt 24, 3) := by decide +kernel
theorem dX8_flight_35 : decode cX8_flight 35 = .ok (.iload 4, 2) := by decide +kernel
theorem dX8_flight_37 : decode cX8_flight 37 = .ok (.sipush 30000, 3) := by decide +kernel
theorem dX8_flight_40 : decode cX8_flight 40 = .ok (.if_icmp .gt 16, 3) := by decide +kernel
theorem dX8_flight_43 : decode cX8_flight 43 = .ok (.iload 5, 2) := by decide +kernel
theorem dX8_flight_45 : decode cX8_flight 45 = .ok (.ifCond .lt 11, 3) := by decide +kernel
theorem dX8_flight_48 : decode cX8_flight 48 = .ok (.iload 5, 2) := by decide +kernel
theorem dX8_flight_50 : decode cX8_flight 50 = .ok (.sipush 10000, 3) := by decide +kernel
theorem dX8_flight_53 : decode cX8_flight 53 = .ok (.if_icmp .le 5, 3) := by decide +kernel
theorem dX8_flight_56 : decode cX8_flight 56 = .ok (.iconst 0, 1) := by decide +kernel
theorem dX8_flight_57 : decode cX8_flight 57 = .ok (.ireturn, 1) := by decide +kernel
theorem dX8_flight_58 : decode cX8_flight 58 = .ok (.aload_n 0, 1) := by decide +kernel
theorem dX8_flight_59 : decode cX8_flight 59 = .ok (.iload_n 1, 1) := by decide +kernel
theorem dX8_flight_60 : decode cX8_flight 60 = .ok (.putfield 233, 3) := by decide +kernel
theorem dX8_flight_63 : decode cX8_flight 63 = .ok (.aload_n 0, 1) := by decide +kernel
theorem dX8_flight_64 : decode cX8_flight 64 = .ok (.iload_n 2, 1) := by decide +kernel
theorem dX8_flight_65 : decode cX8_flight 65 = .ok (.putfield 236, 3) := by decide +kernel
theorem dX8_flight_68 : decode cX8_flight 68 = .ok (.aload_n 0, 1) := by decide +kernel
theorem dX8_flight_69 : decode cX8_flight 69 = .ok (.iload_n 3, 1) := by decide +kernel
theorem dX8_flight_70 : decode cX8_flight 70 = .ok (.putfield 239, 3) := by decide +kernel
theorem dX8_flight_73 : decode cX8_flight 73 = .ok (.aload_n 0, 1) := by decide +kernel
theorem dX8_flight_74 : decode cX8_flight 74 = .ok (.iload 4, 2) := by decide +kernel
theorem dX8_flight_76 : decode cX8_flight 76 = .ok (.putfield 242, 3) := by decide +kernel
theorem dX8_flight_79 : decode cX8_flight 79 = .ok (.aload_n 0, 1) := by decide +kernel
theorem dX8_flight_80 : decode cX8_flight 80 = .ok (.iload 5, 2) := by decide +kernel
theorem dX8_flight_82 : decode cX8_flight 82 = .ok (.putfield 245, 3) := by decide +kernel
theorem dX8_flight_85 : decode cX8_flight 85 = .ok (.aload_n 0, 1) := by decide +kernel
theorem dX8_flight_86 : decode cX8_flight 86 = .ok (.iconst 1, 1) := by decide +kernel
theorem dX8_flight_87 : decode cX8_flight 87 = .ok (.putfield 140, 3) := by decide +kernel
theorem dX8_flight_90 : decode cX8_flight 90 = .ok (.iconst 1, 1) := by decide +kernel
theorem dX8_flight_91 : decode cX8_flight 91 = .ok (.ireturn, 1) := by decide +kernel
theorem dX8_takes_0 : decode cX8_takes 0 = .ok (.bipush 16, 2) := by decide +kernel
theorem dX8_takes_2 : decode cX8_takes 2 = .ok (.aload_n 0, 1) := by decide +kernel
theorem dX8_takes_3 : decode cX8_takes 3 = .ok (.getfield 124, 3) := by decide +kernel
theorem dX8_takes_6 : decode cX8_takes 6 = .ok (.imul, 1) := by decide +kernel
theorem dX8_takes_7 : decode cX8_takes 7 = .ok (.iload_n 1, 1) := by decide +kernel
theorem dX8_takes_8 : decode cX8_takes 8 = .ok (.iadd, 1) := by decide +kernel
theorem dX8_takes_9 : decode cX8_takes 9 = .ok (.istore 4, 2) := by decide +kernel
theorem dX8_takes_11 : decode cX8_takes 11 = .ok (.aload_n 0, 1) := by decide +kernel
theorem dX8_takes_12 : decode cX8_takes 12 = .ok (.iload_n 2, 1) := by decide +kernel
theorem dX8_takes_13 : decode cX8_takes 13 = .ok (.invokevirtual 208, 3) := by decide +kernel
theorem dX8_takes_16 : decode cX8_takes 16 = .ok (.aload_n 0, 1) := by decide +kernel
theorem dX8_takes_17 : decode cX8_takes 17 = .ok (.iload_n 3, 1) := by decide +kernel
theorem dX8_takes_18 : decode cX8_takes 18 = .ok (.iload_n 2, 1) := by decide +kernel
theorem dX8_takes_19 : decode cX8_takes 19 = .ok (.iload_n 1, 1) := by decide +kernel
theorem dX8_takes_20 : decode cX8_takes 20 = .ok (.invokevirtual 217, 3) := by decide +kernel
theorem dX8_takes_23 : decode cX8_takes 23 = .ok (.iadd, 1) := by decide +kernel
theorem dX8_takes_24 : decode cX8_takes 24 = .ok (.istore 5, 2) := by decide +kernel
theorem dX8_takes_26 : decode cX8_takes 26 = .ok (.iload 5, 2) := by decide +kernel
theorem dX8_takes_28 : decode cX8_takes 28 = .ok (.bipush 50, 2) := by decide +kernel
theorem dX8_takes_30 : decode cX8_takes 30 = .ok (.if_icmp .lt 53, 3) := by decide +kernel
theorem dX8_takes_33 : decode cX8_takes 33 = .ok (.iload_n 2, 1) := by decide +kernel
theorem dX8_takes_34 : decode cX8_takes 34 = .ok (.aload_n 0, 1) := by decide +kernel
theorem dX8_takes_35 : decode cX8_takes 35 = .ok (.getfield 77, 3) := by decide +kernel
theorem dX8_takes_38 : decode cX8_takes 38 = .ok (.iload 4, 2) := by decide +kernel
theorem dX8_takes_40 : decode cX8_takes 40 = .ok (.iaload, 1) := by decide +kernel
theorem dX8_takes_41 : decode cX8_takes 41 = .ok (.if_icmp .lt 42, 3) := by decide +kernel
theorem dX8_takes_44 : decode cX8_takes 44 = .ok (.iload_n 2, 1) := by decide +kernel
theorem dX8_takes_45 : decode cX8_takes 45 = .ok (.aload_n 0, 1) := by decide +kernel
theorem dX8_takes_46 : decode cX8_takes 46 = .ok (.getfield 80, 3) := by decide +kernel
theorem dX8_takes_49 : decode cX8_takes 49 = .ok (.iload 4, 2) := by decide +kernel
theorem dX8_takes_51 : decode cX8_takes 51 = .ok (.iaload, 1) := by decide +kernel
theorem dX8_takes_52 : decode cX8_takes 52 = .ok (.if_icmp .gt 31, 3) := by decide +kernel
theorem dX8_takes_55 : decode cX8_takes 55 = .ok (.aload_n 0, 1) := by decide +kernel
theorem dX8_takes_56 : decode cX8_takes 56 = .ok (.getfield 239, 3) := by decide +kernel
theorem dX8_takes_59 : decode cX8_takes 59 = .ok (.aload_n 0, 1) := by decide +kernel
theorem dX8_takes_60 : decode cX8_takes 60 = .ok (.getfield 83, 3) := by decide +kernel
theorem dX8_takes_63 : decode cX8_takes 63 = .ok (.iload 4, 2) := by decide +kernel
theorem dX8_takes_65 : decode cX8_takes 65 = .ok (.iaload, 1) := by decide +kernel
theorem dX8_takes_66 : decode cX8_takes 66 = .ok (.if_icmp .lt 17, 3) := by decide +kernel
theorem dX8_takes_69 : decode cX8_takes 69 = .ok (.aload_n 0, 1) := by decide +kernel
theorem dX8_takes_70 : decode cX8_takes 70 = .ok (.getfield 239, 3) := by decide +kernel
theorem dX8_takes_73 : decode cX8_takes 73 = .ok (.aload_n 0, 1) := by decide +kernel
theorem dX8_takes_74 : decode cX8_takes 74 = .ok (.getfield 86, 3) := by decide +kernel
theorem dX8_takes_77 : decode cX8_takes 77 = .ok (.iload 4, 2) := by decide +kernel
theorem dX8_takes_79 : decode cX8_takes 79 = .ok (.iaload, 1) := by decide +kernel
theorem dX8_takes_80 : decode cX8_takes 80 = .ok (.if_icmp .le 5, 3) := by decide +kernel
theorem dX8_takes_83 : decode cX8_takes 83 = .ok (.iconst (-1), 1) := by decide +kernel
theorem dX8_takes_84 : decode cX8_takes 84 = .ok (.ireturn, 1) := by decide +kernel
theorem dX8_takes_85 : decode cX8_takes 85 = .ok (.aload_n 0, 1) := by decide +kernel
theorem dX8_takes_86 : decode cX8_takes 86 = .ok (.getfield 74, 3) := by decide +kernel
theorem dX8_takes_89 : decode cX8_takes 89 = .ok (.iload 4, 2) := by decide +kernel
theorem dX8_takes_91 : decode cX8_takes 91 = .ok (.iaload, 1) := by decide +kernel
theorem dX8_takes_92 : decode cX8_takes 92 = .ok (.bipush 60, 2) := by decide +kernel
theorem dX8_takes_94 : decode cX8_takes 94 = .ok (.imul, 1) := by decide +kernel
theorem dX8_takes_95 : decode cX8_takes 95 = .ok (.iload 5, 2) := by decide +kernel
theorem dX8_takes_97 : decode cX8_takes 97 = .ok (.iadd, 1) := by decide +kernel
theorem dX8_takes_98 : decode cX8_takes 98 = .ok (.iconst 1, 1) := by decide +kernel
theorem dX8_takes_99 : decode cX8_takes 99 = .ok (.isub, 1) := by decide +kernel
theorem dX8_takes_100 : decode cX8_takes 100 = .ok (.iload 5, 2) := by decide +kernel
theorem dX8_takes_102 : decode cX8_takes 102 = .ok (.idiv, 1) := by decide +kernel
theorem dX8_takes_103 : decode cX8_takes 103 = .ok (.ireturn, 1) := by decide +kernel
theorem dX8_burnt_0 : decode cX8_burnt 0 = .ok (.aload_n 0, 1) := by decide +kernel
theorem dX8_burnt_1 : decode cX8_burnt 1 = .ok (.iconst 3, 1) := by decide +kernel
theorem dX8_burnt_2 : decode cX8_burnt 2 = .ok (.invokevirtual 227, 3) := by decide +kernel
theorem dX8_burnt_5 : decode cX8_burnt 5 = .ok (.aload_n 0, 1) := by decide +kernel
theorem dX8_burnt_6 : decode cX8_burnt 6 = .ok (.getfield 242, 3) := by decide +kernel
theorem dX8_burnt_9 : decode cX8_burnt 9 = .ok (.iadd, 1) := by decide +kernel
theorem dX8_burnt_10 : decode cX8_burnt 10 = .ok (.iload_n 3, 1) := by decide +kernel
theorem dX8_burnt_11 : decode cX8_burnt 11 = .ok (.iadd, 1) := by decide +kernel
theorem dX8_burnt_12 : decode cX8_burnt 12 = .ok (.sipush 1000, 3) := by decide +kernel
theorem dX8_burnt_15 : decode cX8_burnt 15 = .ok (.idiv, 1) := by decide +kernel
theorem dX8_burnt_16 : decode cX8_burnt 16 = .ok (.istore 4, 2) := by decide +kernel
theorem dX8_burnt_18 : decode cX8_burnt 18 = .ok (.iload_n 1, 1) := by decide +kernel
theorem dX8_burnt_19 : decode cX8_burnt 19 = .ok (.aload_n 0, 1) := by decide +kernel
theorem dX8_burnt_20 : decode cX8_burnt 20 = .ok (.iload_n 2, 1) := by decide +kernel
theorem dX8_burnt_21 : decode cX8_burnt 21 = .ok (.iload 4, 2) := by decide +kernel
theorem dX8_burnt_23 : decode cX8_burnt 23 = .ok (.iconst 5, 1) := by decide +kernel
theorem dX8_burnt_24 : decode cX8_burnt 24 = .ok (.if_icmp .ge 8, 3) := by decide +kernel
theorem dX8_burnt_27 : decode cX8_burnt 27 = .ok (.iload 4, 2) := by decide +kernel
theorem dX8_burnt_29 : decode cX8_burnt 29 = .ok (.goto 4, 3) := by decide +kernel
theorem dX8_burnt_32 : decode cX8_burnt 32 = .ok (.iconst 4, 1) := by decide +kernel
theorem dX8_burnt_33 : decode cX8_burnt 33 = .ok (.invokevirtual 221, 3) := by decide +kernel
theorem dX8_burnt_36 : decode cX8_burnt 36 = .ok (.imul, 1) := by decide +kernel
theorem dX8_burnt_37 : decode cX8_burnt 37 = .ok (.bipush 59, 2) := by decide +kernel
theorem dX8_burnt_39 : decode cX8_burnt 39 = .ok (.iadd, 1) := by decide +kernel
theorem dX8_burnt_40 : decode cX8_burnt 40 = .ok (.bipush 60, 2) := by decide +kernel
theorem dX8_burnt_42 : decode cX8_burnt 42 = .ok (.idiv, 1) := by decide +kernel
theorem dX8_burnt_43 : decode cX8_burnt 43 = .ok (.ireturn, 1) := by decide +kernel
theorem dX8_canAsk_0 : decode cX8_canAsk 0 = .ok (.aload_n 0, 1) := by decide +kernel
theorem dX8_canAsk_1 : decode cX8_canAsk 1 = .ok (.getfield 140, 3) := by decide +kernel
theorem dX8_canAsk_4 : decode cX8_canAsk 4 = .ok (.ifCond .eq 29, 3) := by decide +kernel
theorem dX8_canAsk_7 : decode cX8_canAsk 7 = .ok (.aload_n 0, 1) := by decide +kernel
theorem dX8_canAsk_8 : decode cX8_canAsk 8 = .ok (.iload_n 1, 1) := by decide +kernel
theorem dX8_canAsk_9 : decode cX8_canAsk 9 = .ok (.invokevirtual 214, 3) := by decide +kernel
theorem dX8_canAsk_12 : decode cX8_canAsk 12 = .ok (.ifCond .eq 21, 3) := by decide +kernel
theorem dX8_canAsk_15 : decode cX8_canAsk 15 = .ok (.iload_n 2, 1) := by decide +kernel
theorem dX8_canAsk_16 : decode cX8_canAsk 16 = .ok (.invokestatic 205, 3) := by decide +kernel
theorem dX8_canAsk_19 : decode cX8_canAsk 19 = .ok (.ifCond .eq 14, 3) := by decide +kernel
theorem dX8_canAsk_22 : decode cX8_canAsk 22 = .ok (.iload_n 3, 1) := by decide +kernel
theorem dX8_canAsk_23 : decode cX8_canAsk 23 = .ok (.invokestatic 211, 3) := by decide +kernel
theorem dX8_canAsk_26 : decode cX8_canAsk 26 = .ok (.ifCond .eq 7, 3) := by decide +kernel
theorem dX8_canAsk_29 : decode cX8_canAsk 29 = .ok (.iconst 1, 1) := by decide +kernel
theorem dX8_canAsk_30 : decode cX8_canAsk 30 = .ok (.goto 4, 3) := by decide +kernel
theorem dX8_canAsk_33 : decode cX8_canAsk 33 = .ok (.iconst 0, 1) := by decide +kernel
theorem dX8_canAsk_34 : decode cX8_canAsk 34 = .ok (.ireturn, 1) := by decide +kernel
theorem dX8_minutes_0 : decode cX8_minutes 0 = .ok (.aload_n 0, 1) := by decide +kernel
theorem dX8_minutes_1 : decode cX8_minutes 1 = .ok (.iload_n 1, 1) := by decide +kernel
theorem dX8_minutes_2 : decode cX8_minutes 2 = .ok (.iload_n 2, 1) := by decide +kernel
theorem dX8_minutes_3 : decode cX8_minutes 3 = .ok (.iload_n 3, 1) := by decide +kernel
theorem dX8_minutes_4 : decode cX8_minutes 4 = .ok (.invokevirtual 248, 3) := by decide +kernel
theorem dX8_minutes_7 : decode cX8_minutes 7 = .ok (.ifCond .eq 13, 3) := by decide +kernel
theorem dX8_minutes_10 : decode cX8_minutes 10 = .ok (.aload_n 0, 1) := by decide +kernel
theorem dX8_minutes_11 : decode cX8_minutes 11 = .ok (.iload_n 1, 1) := by decide +kernel
theorem dX8_minutes_12 : decode cX8_minutes 12 = .ok (.iload_n 2, 1) := by decide +kernel
theorem dX8_minutes_13 : decode cX8_minutes 13 = .ok (.iload_n 3, 1) := by decide +kernel
theorem dX8_minutes_14 : decode cX8_minutes 14 = .ok (.invokevirtual 252, 3) := by decide +kernel
theorem dX8_minutes_17 : decode cX8_minutes 17 = .ok (.goto 4, 3) := by decide +kernel
theorem dX8_minutes_20 : decode cX8_minutes 20 = .ok (.iconst (-1), 1) := by decide +kernel
theorem dX8_minutes_21 : decode cX8_minutes 21 = .ok (.ireturn, 1) := by decide +kernel
theorem dX8_fuel_0 : decode cX8_fuel 0 = .ok (.aload_n 0, 1) := by decide +kernel
theorem dX8_fuel_1 : decode cX8_fuel 1 = .ok (.iload_n 1, 1) := by decide +kernel
theorem dX8_fuel_2 : decode cX8_fuel 2 = .ok (.iload_n 2, 1) := by decide +kernel
theorem dX8_fuel_3 : decode cX8_fuel 3 = .ok (.iload_n 3, 1) := by decide +kernel
theorem dX8_fuel_4 : decode cX8_fuel 4 = .ok (.invokevirtual 248, 3) := by decide +kernel
theorem dX8_fuel_7 : decode cX8_fuel 7 = .ok (.ifCond .eq 15, 3) := by decide +kernel
theorem dX8_fuel_10 : decode cX8_fuel 10 = .ok (.iload 4, 2) := by decide +kernel
theorem dX8_fuel_12 : decode cX8_fuel 12 = .ok (.ifCond .lt 10, 3) := by decide +kernel
theorem dX8_fuel_15 : decode cX8_fuel 15 = .ok (.iload 4, 2) := by decide +kernel
theorem dX8_fuel_17 : decode cX8_fuel 17 = .ok (.ldc 176, 2) := by decide +kernel
theorem dX8_fuel_19 : decode cX8_fuel 19 = .ok (.if_icmp .le 5, 3) := by decide +kernel
theorem dX8_fuel_22 : decode cX8_fuel 22 = .ok (.iconst (-1), 1) := by decide +kernel
theorem dX8_fuel_23 : decode cX8_fuel 23 = .ok (.ireturn, 1) := by decide +kernel
theorem dX8_fuel_24 : decode cX8_fuel 24 = .ok (.aload_n 0, 1) := by decide +kernel
theorem dX8_fuel_25 : decode cX8_fuel 25 = .ok (.iload_n 1, 1) := by decide +kernel
theorem dX8_fuel_26 : decode cX8_fuel 26 = .ok (.iload_n 2, 1) := by decide +kernel
theorem dX8_fuel_27 : decode cX8_fuel 27 = .ok (.iload_n 3, 1) := by decide +kernel
theorem dX8_fuel_28 : decode cX8_fuel 28 = .ok (.invokevirtual 252, 3) := by decide +kernel
theorem dX8_fuel_31 : decode cX8_fuel 31 = .ok (.istore 5, 2) := by decide +kernel
theorem dX8_fuel_33 : decode cX8_fuel 33 = .ok (.iload 5, 2) := by decide +kernel
theorem dX8_fuel_35 : decode cX8_fuel 35 = .ok (.ifCond .ge 7, 3) := by decide +kernel
theorem dX8_fuel_38 : decode cX8_fuel 38 = .ok (.iconst (-1), 1) := by decide +kernel
theorem dX8_fuel_39 : decode cX8_fuel 39 = .ok (.goto 12, 3) := by decide +kernel
theorem dX8_fuel_42 : decode cX8_fuel 42 = .ok (.aload_n 0, 1) := by decide +kernel
theorem dX8_fuel_43 : decode cX8_fuel 43 = .ok (.iload 5, 2) := by decide +kernel
theorem dX8_fuel_45 : decode cX8_fuel 45 = .ok (.iload_n 2, 1) := by decide +kernel
theorem dX8_fuel_46 : decode cX8_fuel 46 = .ok (.iload 4, 2) := by decide +kernel
theorem dX8_fuel_48 : decode cX8_fuel 48 = .ok (.invokevirtual 255, 3) := by decide +kernel
theorem dX8_fuel_51 : decode cX8_fuel 51 = .ok (.ireturn, 1) := by decide +kernel
theorem dX8_climbsTo_0 : decode cX8_climbsTo 0 = .ok (.iconst 0, 1) := by decide +kernel
theorem dX8_climbsTo_1 : decode cX8_climbsTo 1 = .ok (.istore_n 3, 1) := by decide +kernel
theorem dX8_climbsTo_2 : decode cX8_climbsTo 2 = .ok (.iload_n 1, 1) := by decide +kernel
theorem dX8_climbsTo_3 : decode cX8_climbsTo 3 = .ok (.iconst 1, 1) := by decide +kernel
theorem dX8_climbsTo_4 : decode cX8_climbsTo 4 = .ok (.iadd, 1) := by decide +kernel
theorem dX8_climbsTo_5 : decode cX8_climbsTo 5 = .ok (.istore 4, 2) := by decide +kernel
theorem dX8_climbsTo_7 : decode cX8_climbsTo 7 = .ok (.iload 4, 2) := by decide +kernel
theorem dX8_climbsTo_9 : decode cX8_climbsTo 9 = .ok (.iload_n 2, 1) := by decide +kernel
theorem dX8_climbsTo_10 : decode cX8_climbsTo 10 = .ok (.if_icmp .gt 18, 3) := by decide +kernel
theorem dX8_climbsTo_13 : decode cX8_climbsTo 13 = .ok (.iload_n 3, 1) := by decide +kernel
theorem dX8_climbsTo_14 : decode cX8_climbsTo 14 = .ok (.aload_n 0, 1) := by decide +kernel
theorem dX8_climbsTo_15 : decode cX8_climbsTo 15 = .ok (.iload 4, 2) := by decide +kernel
theorem dX8_climbsTo_17 : decode cX8_climbsTo 17 = .ok (.invokevirtual 224, 3) := by decide +kernel
theorem dX8_climbsTo_20 : decode cX8_climbsTo 20 = .ok (.iadd, 1) := by decide +kernel
theorem dX8_climbsTo_21 : decode cX8_climbsTo 21 = .ok (.istore_n 3, 1) := by decide +kernel
theorem dX8_climbsTo_22 : decode cX8_climbsTo 22 = .ok (.iinc 4 1, 3) := by decide +kernel
theorem dX8_climbsTo_25 : decode cX8_climbsTo 25 = .ok (.goto (-18), 3) := by decide +kernel
theorem dX8_climbsTo_28 : decode cX8_climbsTo 28 = .ok (.iload_n 3, 1) := by decide +kernel
theorem dX8_climbsTo_29 : decode cX8_climbsTo 29 = .ok (.ireturn, 1) := by decide +kernel
theorem dX8_needFrom_0 : decode cX8_needFrom 0 = .ok (.ldc_w 258, 3) := by decide +kernel
theorem dX8_needFrom_3 : decode cX8_needFrom 3 = .ok (.istore_n 3, 1) := by decide +kernel
theorem dX8_needFrom_4 : decode cX8_needFrom 4 = .ok (.iconst 0, 1) := by decide +kernel
theorem dX8_needFrom_5 : decode cX8_needFrom 5 = .ok (.istore 4, 2) := by decide +kernel
theorem dX8_needFrom_7 : decode cX8_needFrom 7 = .ok (.iload 4, 2) := by decide +kernel
theorem dX8_needFrom_9 : decode cX8_needFrom 9 = .ok (.aload_n 0, 1) := by decide +kernel
theorem dX8_needFrom_10 : decode cX8_needFrom 10 = .ok (.getfield 65, 3) := by decide +kernel
theorem dX8_needFrom_13 : decode cX8_needFrom 13 = .ok (.aload_n 0, 1) := by decide +kernel
theorem dX8_needFrom_14 : decode cX8_needFrom 14 = .ok (.getfield 124, 3) := by decide +kernel
theorem dX8_needFrom_17 : decode cX8_needFrom 17 = .ok (.iaload, 1) := by decide +kernel
theorem dX8_needFrom_18 : decode cX8_needFrom 18 = .ok (.if_icmp .ge 102, 3) := by decide +kernel
theorem dX8_needFrom_21 : decode cX8_needFrom 21 = .ok (.iconst 0, 1) := by decide +kernel
theorem dX8_needFrom_22 : decode cX8_needFrom 22 = .ok (.istore 5, 2) := by decide +kernel
theorem dX8_needFrom_24 : decode cX8_needFrom 24 = .ok (.iload 5, 2) := by decide +kernel
theorem dX8_needFrom_26 : decode cX8_needFrom 26 = .ok (.bipush 6, 2) := by decide +kernel
theorem dX8_needFrom_28 : decode cX8_needFrom 28 = .ok (.if_icmp .ge 86, 3) := by decide +kernel
theorem dX8_needFrom_31 : decode cX8_needFrom 31 = .ok (.aload_n 0, 1) := by decide +kernel
theorem dX8_needFrom_32 : decode cX8_needFrom 32 = .ok (.getfield 68, 3) := by decide +kernel
theorem dX8_needFrom_35 : decode cX8_needFrom 35 = .ok (.bipush 16, 2) := by decide +kernel
theorem dX8_needFrom_37 : decode cX8_needFrom 37 = .ok (.aload_n 0, 1) := by decide +kernel
theorem dX8_needFrom_38 : decode cX8_needFrom 38 = .ok (.getfield 124, 3) := by decide +kernel
theorem dX8_needFrom_41 : decode cX8_needFrom 41 = .ok (.imul, 1) := by decide +kernel
theorem dX8_needFrom_42 : decode cX8_needFrom 42 = .ok (.iload 4, 2) := by decide +kernel
theorem dX8_needFrom_44 : decode cX8_needFrom 44 = .ok (.iadd, 1) := by decide +kernel
theorem dX8_needFrom_45 : decode cX8_needFrom 45 = .ok (.iaload, 1) := by decide +kernel
theorem dX8_needFrom_46 : decode cX8_needFrom 46 = .ok (.iload_n 1, 1) := by decide +kernel
theorem dX8_needFrom_47 : decode cX8_needFrom 47 = .ok (.if_icmp .ne 67, 3) := by decide +kernel
theorem dX8_needFrom_50 : decode cX8_needFrom 50 = .ok (.aload_n 0, 1) := by decide +kernel
theorem dX8_needFrom_51 : decode cX8_needFrom 51 = .ok (.getfield 104, 3) := by decide +kernel
theorem dX8_needFrom_54 : decode cX8_needFrom 54 = .ok (.bipush 6, 2) := by decide +kernel
theorem dX8_needFrom_56 : decode cX8_needFrom 56 = .ok (.iload 4, 2) := by decide +kernel
theorem dX8_needFrom_58 : decode cX8_needFrom 58 = .ok (.imul, 1) := by decide +kernel
theorem dX8_needFrom_59 : decode cX8_needFrom 59 = .ok (.iload 5, 2) := by decide +kernel
theorem dX8_needFrom_61 : decode cX8_needFrom 61 = .ok (.iadd, 1) := by decide +kernel
theorem dX8_needFrom_62 : decode cX8_needFrom 62 = .ok (.iaload, 1) := by decide +kernel
theorem dX8_needFrom_63 : decode cX8_needFrom 63 = .ok (.ldc_w 258, 3) := by decide +kernel
theorem dX8_needFrom_66 : decode cX8_needFrom 66 = .ok (.if_icmp .ne 6, 3) := by decide +kernel
theorem dX8_needFrom_69 : decode cX8_needFrom 69 = .ok (.goto 39, 3) := by decide +kernel
theorem dX8_needFrom_72 : decode cX8_needFrom 72 = .ok (.aload_n 0, 1) := by decide +kernel
theorem dX8_needFrom_73 : decode cX8_needFrom 73 = .ok (.iload_n 2, 1) := by decide +kernel
theorem dX8_needFrom_74 : decode cX8_needFrom 74 = .ok (.iload 5, 2) := by decide +kernel
theorem dX8_needFrom_76 : decode cX8_needFrom 76 = .ok (.invokevirtual 259, 3) := by decide +kernel
theorem dX8_needFrom_79 : decode cX8_needFrom 79 = .ok (.aload_n 0, 1) := by decide +kernel
theorem dX8_needFrom_80 : decode cX8_needFrom 80 = .ok (.getfield 104, 3) := by decide +kernel
theorem dX8_needFrom_83 : decode cX8_needFrom 83 = .ok (.bipush 6, 2) := by decide +kernel
theorem dX8_needFrom_85 : decode cX8_needFrom 85 = .ok (.iload 4, 2) := by decide +kernel
theorem dX8_needFrom_87 : decode cX8_needFrom 87 = .ok (.imul, 1) := by decide +kernel
theorem dX8_needFrom_88 : decode cX8_needFrom 88 = .ok (.iload 5, 2) := by decide +kernel
theorem dX8_needFrom_90 : decode cX8_needFrom 90 = .ok (.iadd, 1) := by decide +kernel
theorem dX8_needFrom_91 : decode cX8_needFrom 91 = .ok (.iaload, 1) := by decide +kernel
theorem dX8_needFrom_92 : decode cX8_needFrom 92 = .ok (.iadd, 1) := by decide +kernel
theorem dX8_needFrom_93 : decode cX8_needFrom 93 = .ok (.istore 6, 2) := by decide +kernel
theorem dX8_needFrom_95 : decode cX8_needFrom 95 = .ok (.iload 6, 2) := by decide +kernel
theorem dX8_needFrom_97 : decode cX8_needFrom 97 = .ok (.iload_n 3, 1) := by decide +kernel
theorem dX8_needFrom_98 : decode cX8_needFrom 98 = .ok (.if_icmp .ge 8, 3) := by decide +kernel
theorem dX8_needFrom_101 : decode cX8_needFrom 101 = .ok (.iload 6, 2) := by decide +kernel
theorem dX8_needFrom_103 : decode cX8_needFrom 103 = .ok (.goto 4, 3) := by decide +kernel
theorem dX8_needFrom_106 : decode cX8_needFrom 106 = .ok (.iload_n 3, 1) := by decide +kernel
theorem dX8_needFrom_107 : decode cX8_needFrom 107 = .ok (.istore_n 3, 1) := by decide +kernel
theorem dX8_needFrom_108 : decode cX8_needFrom 108 = .ok (.iinc 5 1, 3) := by decide +kernel
theorem dX8_needFrom_111 : decode cX8_needFrom 111 = .ok (.goto (-87), 3) := by decide +kernel
theorem dX8_needFrom_114 : decode cX8_needFrom 114 = .ok (.iinc 4 1, 3) := by decide +kernel
theorem dX8_needFrom_117 : decode cX8_needFrom 117 = .ok (.goto (-110), 3) := by decide +kernel
theorem dX8_needFrom_120 : decode cX8_needFrom 120 = .ok (.iload_n 3, 1) := by decide +kernel
theorem dX8_needFrom_121 : decode cX8_needFrom 121 = .ok (.ireturn, 1) := by decide +kernel
theorem dX8_reckon_0 : decode cX8_reckon 0 = .ok (.iconst 0, 1) := by decide +kernel
theorem dX8_reckon_1 : decode cX8_reckon 1 = .ok (.istore_n 3, 1) := by decide +kernel
theorem dX8_reckon_2 : decode cX8_reckon 2 = .ok (.iload_n 3, 1) := by decide +kernel
theorem dX8_reckon_3 : decode cX8_reckon 3 = .ok (.bipush 96, 2) := by decide +kernel
theorem dX8_reckon_5 : decode cX8_reckon 5 = .ok (.if_icmp .ge 18, 3) := by decide +kernel
theorem dX8_reckon_8 : decode cX8_reckon 8 = .ok (.aload_n 0, 1) := by decide +kernel
theorem dX8_reckon_9 : decode cX8_reckon 9 = .ok (.getfield 104, 3) := by decide +kernel
theorem dX8_reckon_12 : decode cX8_reckon 12 = .ok (.iload_n 3, 1) := by decide +kernel
theorem dX8_reckon_13 : decode cX8_reckon 13 = .ok (.ldc_w 258, 3) := by decide +kernel
theorem dX8_reckon_16 : decode cX8_reckon 16 = .ok (.iastore, 1) := by decide +kernel
theorem dX8_reckon_17 : decode cX8_reckon 17 = .ok (.iinc 3 1, 3) := by decide +kernel
theorem dX8_reckon_20 : decode cX8_reckon 20 = .ok (.goto (-18), 3) := by decide +kernel
theorem dX8_reckon_23 : decode cX8_reckon 23 = .ok (.iconst 1, 1) := by decide +kernel
theorem dX8_reckon_24 : decode cX8_reckon 24 = .ok (.istore_n 3, 1) := by decide +kernel
theorem dX8_reckon_25 : decode cX8_reckon 25 = .ok (.iload_n 3, 1) := by decide +kernel
theorem dX8_reckon_26 : decode cX8_reckon 26 = .ok (.ifCond .eq 177, 3) := by decide +kernel
theorem dX8_reckon_29 : decode cX8_reckon 29 = .ok (.iconst 0, 1) := by decide +kernel
theorem dX8_reckon_30 : decode cX8_reckon 30 = .ok (.istore_n 3, 1) := by decide +kernel
theorem dX8_reckon_31 : decode cX8_reckon 31 = .ok (.iconst 0, 1) := by decide +kernel
theorem dX8_reckon_32 : decode cX8_reckon 32 = .ok (.istore 4, 2) := by decide +kernel
theorem dX8_reckon_34 : decode cX8_reckon 34 = .ok (.iload 4, 2) := by decide +kernel
theorem dX8_reckon_36 : decode cX8_reckon 36 = .ok (.aload_n 0, 1) := by decide +kernel
theorem dX8_reckon_37 : decode cX8_reckon 37 = .ok (.getfield 65, 3) := by decide +kernel
theorem dX8_reckon_40 : decode cX8_reckon 40 = .ok (.aload_n 0, 1) := by decide +kernel
theorem dX8_reckon_41 : decode cX8_reckon 41 = .ok (.getfield 124, 3) := by decide +kernel
theorem dX8_reckon_44 : decode cX8_reckon 44 = .ok (.iaload, 1) := by decide +kernel
theorem dX8_reckon_45 : decode cX8_reckon 45 = .ok (.if_icmp .ge 155, 3) := by decide +kernel
theorem dX8_reckon_48 : decode cX8_reckon 48 = .ok (.iconst 0, 1) := by decide +kernel
theorem dX8_reckon_49 : decode cX8_reckon 49 = .ok (.istore 5, 2) := by decide +kernel
theorem dX8_reckon_51 : decode cX8_reckon 51 = .ok (.iload 5, 2) := by decide +kernel
theorem dX8_reckon_53 : decode cX8_reckon 53 = .ok (.bipush 6, 2) := by decide +kernel
theorem dX8_reckon_55 : decode cX8_reckon 55 = .ok (.if_icmp .ge 139, 3) := by decide +kernel
theorem dX8_reckon_58 : decode cX8_reckon 58 = .ok (.aload_n 0, 1) := by decide +kernel
theorem dX8_reckon_59 : decode cX8_reckon 59 = .ok (.iload 4, 2) := by decide +kernel
theorem dX8_reckon_61 : decode cX8_reckon 61 = .ok (.iload 5, 2) := by decide +kernel
theorem dX8_reckon_63 : decode cX8_reckon 63 = .ok (.iload_n 1, 1) := by decide +kernel
theorem dX8_reckon_64 : decode cX8_reckon 64 = .ok (.invokevirtual 252, 3) := by decide +kernel
theorem dX8_reckon_67 : decode cX8_reckon 67 = .ok (.istore 6, 2) := by decide +kernel
theorem dX8_reckon_69 : decode cX8_reckon 69 = .ok (.aload_n 0, 1) := by decide +kernel
theorem dX8_reckon_70 : decode cX8_reckon 70 = .ok (.getfield 71, 3) := by decide +kernel
theorem dX8_reckon_73 : decode cX8_reckon 73 = .ok (.bipush 16, 2) := by decide +kernel
theorem dX8_reckon_75 : decode cX8_reckon 75 = .ok (.aload_n 0, 1) := by decide +kernel
theorem dX8_reckon_76 : decode cX8_reckon 76 = .ok (.getfield 124, 3) := by decide +kernel
theorem dX8_reckon_79 : decode cX8_reckon 79 = .ok (.imul, 1) := by decide +kernel
theorem dX8_reckon_80 : decode cX8_reckon 80 = .ok (.iload 4, 2) := by decide +kernel
theorem dX8_reckon_82 : decode cX8_reckon 82 = .ok (.iadd, 1) := by decide +kernel
theorem dX8_reckon_83 : decode cX8_reckon 83 = .ok (.iaload, 1) := by decide +kernel
theorem dX8_reckon_84 : decode cX8_reckon 84 = .ok (.istore 7, 2) := by decide +kernel
theorem dX8_reckon_86 : decode cX8_reckon 86 = .ok (.iload 6, 2) := by decide +kernel
theorem dX8_reckon_88 : decode cX8_reckon 88 = .ok (.ifCond .ge 9, 3) := by decide +kernel
theorem dX8_reckon_91 : decode cX8_reckon 91 = .ok (.ldc_w 258, 3) := by decide +kernel
theorem dX8_reckon_94 : decode cX8_reckon 94 = .ok (.goto 24, 3) := by decide +kernel
theorem dX8_reckon_97 : decode cX8_reckon 97 = .ok (.iload 7, 2) := by decide +kernel
theorem dX8_reckon_99 : decode cX8_reckon 99 = .ok (.iload_n 2, 1) := by decide +kernel
theorem dX8_reckon_100 : decode cX8_reckon 100 = .ok (.if_icmp .ne 10, 3) := by decide +kernel
theorem dX8_reckon_103 : decode cX8_reckon 103 = .ok (.aload_n 0, 1) := by decide +kernel
theorem dX8_reckon_104 : decode cX8_reckon 104 = .ok (.getfield 245, 3) := by decide +kernel
theorem dX8_reckon_107 : decode cX8_reckon 107 = .ok (.goto 11, 3) := by decide +kernel
theorem dX8_reckon_110 : decode cX8_reckon 110 = .ok (.aload_n 0, 1) := by decide +kernel
theorem dX8_reckon_111 : decode cX8_reckon 111 = .ok (.iload 7, 2) := by decide +kernel
theorem dX8_reckon_113 : decode cX8_reckon 113 = .ok (.iload 5, 2) := by decide +kernel
theorem dX8_reckon_115 : decode cX8_reckon 115 = .ok (.invokevirtual 262, 3) := by decide +kernel
theorem dX8_reckon_118 : decode cX8_reckon 118 = .ok (.istore 8, 2) := by decide +kernel
theorem dX8_reckon_120 : decode cX8_reckon 120 = .ok (.iload 8, 2) := by decide +kernel
theorem dX8_reckon_122 : decode cX8_reckon 122 = .ok (.ldc_w 258, 3) := by decide +kernel
theorem dX8_reckon_125 : decode cX8_reckon 125 = .ok (.if_icmp .eq 63, 3) := by decide +kernel
theorem dX8_reckon_128 : decode cX8_reckon 128 = .ok (.iload 8, 2) := by decide +kernel
theorem dX8_reckon_130 : decode cX8_reckon 130 = .ok (.aload_n 0, 1) := by decide +kernel
theorem dX8_reckon_131 : decode cX8_reckon 131 = .ok (.iload 6, 2) := by decide +kernel
theorem dX8_reckon_133 : decode cX8_reckon 133 = .ok (.iload 5, 2) := by decide +kernel
theorem dX8_reckon_135 : decode cX8_reckon 135 = .ok (.iload 8, 2) := by decide +kernel
theorem dX8_reckon_137 : decode cX8_reckon 137 = .ok (.invokevirtual 255, 3) := by decide +kernel
theorem dX8_reckon_140 : decode cX8_reckon 140 = .ok (.iadd, 1) := by decide +kernel
theorem dX8_reckon_141 : decode cX8_reckon 141 = .ok (.aload_n 0, 1) := by decide +kernel
theorem dX8_reckon_142 : decode cX8_reckon 142 = .ok (.getfield 104, 3) := by decide +kernel
theorem dX8_reckon_145 : decode cX8_reckon 145 = .ok (.bipush 6, 2) := by decide +kernel
theorem dX8_reckon_147 : decode cX8_reckon 147 = .ok (.iload 4, 2) := by decide +kernel
theorem dX8_reckon_149 : decode cX8_reckon 149 = .ok (.imul, 1) := by decide +kernel
theorem dX8_reckon_150 : decode cX8_reckon 150 = .ok (.iload 5, 2) := by decide +kernel
theorem dX8_reckon_152 : decode cX8_reckon 152 = .ok (.iadd, 1) := by decide +kernel
theorem dX8_reckon_153 : decode cX8_reckon 153 = .ok (.iaload, 1) := by decide +kernel
theorem dX8_reckon_154 : decode cX8_reckon 154 = .ok (.if_icmp .lt 6, 3) := by decide +kernel
theorem dX8_reckon_157 : decode cX8_reckon 157 = .ok (.goto 31, 3) := by decide +kernel
theorem dX8_reckon_160 : decode cX8_reckon 160 = .ok (.aload_n 0, 1) := by decide +kernel
theorem dX8_reckon_161 : decode cX8_reckon 161 = .ok (.getfield 104, 3) := by decide +kernel
theorem dX8_reckon_164 : decode cX8_reckon 164 = .ok (.bipush 6, 2) := by decide +kernel
theorem dX8_reckon_166 : decode cX8_reckon 166 = .ok (.iload 4, 2) := by decide +kernel
theorem dX8_reckon_168 : decode cX8_reckon 168 = .ok (.imul, 1) := by decide +kernel
theorem dX8_reckon_169 : decode cX8_reckon 169 = .ok (.iload 5, 2) := by decide +kernel
theorem dX8_reckon_171 : decode cX8_reckon 171 = .ok (.iadd, 1) := by decide +kernel
theorem dX8_reckon_172 : decode cX8_reckon 172 = .ok (.iload 8, 2) := by decide +kernel
theorem dX8_reckon_174 : decode cX8_reckon 174 = .ok (.aload_n 0, 1) := by decide +kernel
theorem dX8_reckon_175 : decode cX8_reckon 175 = .ok (.iload 6, 2) := by decide +kernel
theorem dX8_reckon_177 : decode cX8_reckon 177 = .ok (.iload 5, 2) := by decide +kernel
theorem dX8_reckon_179 : decode cX8_reckon 179 = .ok (.iload 8, 2) := by decide +kernel
theorem dX8_reckon_181 : decode cX8_reckon 181 = .ok (.invokevirtual 255, 3) := by decide +kernel
theorem dX8_reckon_184 : decode cX8_reckon 184 = .ok (.iadd, 1) := by decide +kernel
theorem dX8_reckon_185 : decode cX8_reckon 185 = .ok (.iastore, 1) := by decide +kernel
theorem dX8_reckon_186 : decode cX8_reckon 186 = .ok (.iconst 1, 1) := by decide +kernel
theorem dX8_reckon_187 : decode cX8_reckon 187 = .ok (.istore_n 3, 1) := by decide +kernel
theorem dX8_reckon_188 : decode cX8_reckon 188 = .ok (.iinc 5 1, 3) := by decide +kernel
theorem dX8_reckon_191 : decode cX8_reckon 191 = .ok (.goto (-140), 3) := by decide +kernel
theorem dX8_reckon_194 : decode cX8_reckon 194 = .ok (.iinc 4 1, 3) := by decide +kernel
theorem dX8_reckon_197 : decode cX8_reckon 197 = .ok (.goto (-163), 3) := by decide +kernel
theorem dX8_reckon_200 : decode cX8_reckon 200 = .ok (.goto (-175), 3) := by decide +kernel
theorem dX8_reckon_203 : decode cX8_reckon 203 = .ok (.return_, 1) := by decide +kernel
theorem dX8_seek_0 : decode cX8_seek 0 = .ok (.aload_n 0, 1) := by decide +kernel
theorem dX8_seek_1 : decode cX8_seek 1 = .ok (.iconst 0, 1) := by decide +kernel
theorem dX8_seek_2 : decode cX8_seek 2 = .ok (.putfield 265, 3) := by decide +kernel
