theorem dX8_fault_17 : decode cX8_fault 17 = .ok (.getfield 14, 3) := by decide +kernel
theorem dX8_fault_20 : decode cX8_fault 20 = .ok (.goto 4, 3) := by decide +kernel
theorem dX8_fault_23 : decode cX8_fault 23 = .ok (.iconst (-1), 1) := by decide +kernel
theorem dX8_fault_24 : decode cX8_fault 24 = .ok (.ireturn, 1) := by decide +kernel
theorem dX8_speed_0 : decode cX8_speed 0 = .ok (.aload_n 0, 1) := by decide +kernel
theorem dX8_speed_1 : decode cX8_speed 1 = .ok (.getfield 89, 3) := by decide +kernel
theorem dX8_speed_4 : decode cX8_speed 4 = .ok (.bipush 6, 2) := by decide +kernel
theorem dX8_speed_6 : decode cX8_speed 6 = .ok (.aload_n 0, 1) := by decide +kernel
theorem dX8_speed_7 : decode cX8_speed 7 = .ok (.getfield 124, 3) := by decide +kernel
theorem dX8_speed_10 : decode cX8_speed 10 = .ok (.imul, 1) := by decide +kernel
theorem dX8_speed_11 : decode cX8_speed 11 = .ok (.iload_n 1, 1) := by decide +kernel
theorem dX8_speed_12 : decode cX8_speed 12 = .ok (.iadd, 1) := by decide +kernel
theorem dX8_speed_13 : decode cX8_speed 13 = .ok (.iaload, 1) := by decide +kernel
theorem dX8_speed_14 : decode cX8_speed 14 = .ok (.ldc 120, 2) := by decide +kernel
theorem dX8_speed_16 : decode cX8_speed 16 = .ok (.if_icmp .ne 9, 3) := by decide +kernel
theorem dX8_speed_19 : decode cX8_speed 19 = .ok (.sipush 400, 3) := by decide +kernel
theorem dX8_speed_22 : decode cX8_speed 22 = .ok (.goto 17, 3) := by decide +kernel
theorem dX8_speed_25 : decode cX8_speed 25 = .ok (.aload_n 0, 1) := by decide +kernel
theorem dX8_speed_26 : decode cX8_speed 26 = .ok (.getfield 89, 3) := by decide +kernel
theorem dX8_speed_29 : decode cX8_speed 29 = .ok (.bipush 6, 2) := by decide +kernel
theorem dX8_speed_31 : decode cX8_speed 31 = .ok (.aload_n 0, 1) := by decide +kernel
theorem dX8_speed_32 : decode cX8_speed 32 = .ok (.getfield 124, 3) := by decide +kernel
theorem dX8_speed_35 : decode cX8_speed 35 = .ok (.imul, 1) := by decide +kernel
theorem dX8_speed_36 : decode cX8_speed 36 = .ok (.iload_n 1, 1) := by decide +kernel
theorem dX8_speed_37 : decode cX8_speed 37 = .ok (.iadd, 1) := by decide +kernel
theorem dX8_speed_38 : decode cX8_speed 38 = .ok (.iaload, 1) := by decide +kernel
theorem dX8_speed_39 : decode cX8_speed 39 = .ok (.ireturn, 1) := by decide +kernel
theorem dX8_burn_0 : decode cX8_burn 0 = .ok (.bipush 30, 2) := by decide +kernel
theorem dX8_burn_2 : decode cX8_burn 2 = .ok (.aload_n 0, 1) := by decide +kernel
theorem dX8_burn_3 : decode cX8_burn 3 = .ok (.getfield 124, 3) := by decide +kernel
theorem dX8_burn_6 : decode cX8_burn 6 = .ok (.imul, 1) := by decide +kernel
theorem dX8_burn_7 : decode cX8_burn 7 = .ok (.iconst 5, 1) := by decide +kernel
theorem dX8_burn_8 : decode cX8_burn 8 = .ok (.iload_n 1, 1) := by decide +kernel
theorem dX8_burn_9 : decode cX8_burn 9 = .ok (.imul, 1) := by decide +kernel
theorem dX8_burn_10 : decode cX8_burn 10 = .ok (.iadd, 1) := by decide +kernel
theorem dX8_burn_11 : decode cX8_burn 11 = .ok (.istore_n 3, 1) := by decide +kernel
theorem dX8_burn_12 : decode cX8_burn 12 = .ok (.iload_n 2, 1) := by decide +kernel
theorem dX8_burn_13 : decode cX8_burn 13 = .ok (.istore 4, 2) := by decide +kernel
theorem dX8_burn_15 : decode cX8_burn 15 = .ok (.iload 4, 2) := by decide +kernel
theorem dX8_burn_17 : decode cX8_burn 17 = .ok (.ifCond .lt 23, 3) := by decide +kernel
theorem dX8_burn_20 : decode cX8_burn 20 = .ok (.aload_n 0, 1) := by decide +kernel
theorem dX8_burn_21 : decode cX8_burn 21 = .ok (.getfield 95, 3) := by decide +kernel
theorem dX8_burn_24 : decode cX8_burn 24 = .ok (.iload_n 3, 1) := by decide +kernel
theorem dX8_burn_25 : decode cX8_burn 25 = .ok (.iload 4, 2) := by decide +kernel
theorem dX8_burn_27 : decode cX8_burn 27 = .ok (.iadd, 1) := by decide +kernel
theorem dX8_burn_28 : decode cX8_burn 28 = .ok (.iaload, 1) := by decide +kernel
theorem dX8_burn_29 : decode cX8_burn 29 = .ok (.ldc 120, 2) := by decide +kernel
theorem dX8_burn_31 : decode cX8_burn 31 = .ok (.if_icmp .ne 9, 3) := by decide +kernel
theorem dX8_burn_34 : decode cX8_burn 34 = .ok (.iinc 4 (-1), 3) := by decide +kernel
theorem dX8_burn_37 : decode cX8_burn 37 = .ok (.goto (-22), 3) := by decide +kernel
theorem dX8_burn_40 : decode cX8_burn 40 = .ok (.iload 4, 2) := by decide +kernel
theorem dX8_burn_42 : decode cX8_burn 42 = .ok (.ifCond .lt 13, 3) := by decide +kernel
theorem dX8_burn_45 : decode cX8_burn 45 = .ok (.aload_n 0, 1) := by decide +kernel
theorem dX8_burn_46 : decode cX8_burn 46 = .ok (.getfield 95, 3) := by decide +kernel
theorem dX8_burn_49 : decode cX8_burn 49 = .ok (.iload_n 3, 1) := by decide +kernel
theorem dX8_burn_50 : decode cX8_burn 50 = .ok (.iload 4, 2) := by decide +kernel
theorem dX8_burn_52 : decode cX8_burn 52 = .ok (.iadd, 1) := by decide +kernel
theorem dX8_burn_53 : decode cX8_burn 53 = .ok (.iaload, 1) := by decide +kernel
theorem dX8_burn_54 : decode cX8_burn 54 = .ok (.ireturn, 1) := by decide +kernel
theorem dX8_burn_55 : decode cX8_burn 55 = .ok (.iload_n 2, 1) := by decide +kernel
theorem dX8_burn_56 : decode cX8_burn 56 = .ok (.istore 4, 2) := by decide +kernel
theorem dX8_burn_58 : decode cX8_burn 58 = .ok (.iload 4, 2) := by decide +kernel
theorem dX8_burn_60 : decode cX8_burn 60 = .ok (.iconst 5, 1) := by decide +kernel
theorem dX8_burn_61 : decode cX8_burn 61 = .ok (.if_icmp .ge 23, 3) := by decide +kernel
theorem dX8_burn_64 : decode cX8_burn 64 = .ok (.aload_n 0, 1) := by decide +kernel
theorem dX8_burn_65 : decode cX8_burn 65 = .ok (.getfield 95, 3) := by decide +kernel
theorem dX8_burn_68 : decode cX8_burn 68 = .ok (.iload_n 3, 1) := by decide +kernel
theorem dX8_burn_69 : decode cX8_burn 69 = .ok (.iload 4, 2) := by decide +kernel
theorem dX8_burn_71 : decode cX8_burn 71 = .ok (.iadd, 1) := by decide +kernel
theorem dX8_burn_72 : decode cX8_burn 72 = .ok (.iaload, 1) := by decide +kernel
theorem dX8_burn_73 : decode cX8_burn 73 = .ok (.ldc 120, 2) := by decide +kernel
theorem dX8_burn_75 : decode cX8_burn 75 = .ok (.if_icmp .ne 9, 3) := by decide +kernel
theorem dX8_burn_78 : decode cX8_burn 78 = .ok (.iinc 4 1, 3) := by decide +kernel
theorem dX8_burn_81 : decode cX8_burn 81 = .ok (.goto (-23), 3) := by decide +kernel
theorem dX8_burn_84 : decode cX8_burn 84 = .ok (.iload 4, 2) := by decide +kernel
theorem dX8_burn_86 : decode cX8_burn 86 = .ok (.iconst 5, 1) := by decide +kernel
theorem dX8_burn_87 : decode cX8_burn 87 = .ok (.if_icmp .ge 15, 3) := by decide +kernel
theorem dX8_burn_90 : decode cX8_burn 90 = .ok (.aload_n 0, 1) := by decide +kernel
theorem dX8_burn_91 : decode cX8_burn 91 = .ok (.getfield 95, 3) := by decide +kernel
theorem dX8_burn_94 : decode cX8_burn 94 = .ok (.iload_n 3, 1) := by decide +kernel
theorem dX8_burn_95 : decode cX8_burn 95 = .ok (.iload 4, 2) := by decide +kernel
theorem dX8_burn_97 : decode cX8_burn 97 = .ok (.iadd, 1) := by decide +kernel
theorem dX8_burn_98 : decode cX8_burn 98 = .ok (.iaload, 1) := by decide +kernel
theorem dX8_burn_99 : decode cX8_burn 99 = .ok (.goto 6, 3) := by decide +kernel
theorem dX8_burn_102 : decode cX8_burn 102 = .ok (.sipush 1000, 3) := by decide +kernel
theorem dX8_burn_105 : decode cX8_burn 105 = .ok (.ireturn, 1) := by decide +kernel
theorem dX8_climb_0 : decode cX8_climb 0 = .ok (.aload_n 0, 1) := by decide +kernel
theorem dX8_climb_1 : decode cX8_climb 1 = .ok (.getfield 98, 3) := by decide +kernel
theorem dX8_climb_4 : decode cX8_climb 4 = .ok (.bipush 6, 2) := by decide +kernel
theorem dX8_climb_6 : decode cX8_climb 6 = .ok (.aload_n 0, 1) := by decide +kernel
theorem dX8_climb_7 : decode cX8_climb 7 = .ok (.getfield 124, 3) := by decide +kernel
theorem dX8_climb_10 : decode cX8_climb 10 = .ok (.imul, 1) := by decide +kernel
theorem dX8_climb_11 : decode cX8_climb 11 = .ok (.iload_n 1, 1) := by decide +kernel
theorem dX8_climb_12 : decode cX8_climb 12 = .ok (.iadd, 1) := by decide +kernel
theorem dX8_climb_13 : decode cX8_climb 13 = .ok (.iaload, 1) := by decide +kernel
theorem dX8_climb_14 : decode cX8_climb 14 = .ok (.ldc 120, 2) := by decide +kernel
theorem dX8_climb_16 : decode cX8_climb 16 = .ok (.if_icmp .ne 7, 3) := by decide +kernel
theorem dX8_climb_19 : decode cX8_climb 19 = .ok (.iconst 0, 1) := by decide +kernel
theorem dX8_climb_20 : decode cX8_climb 20 = .ok (.goto 17, 3) := by decide +kernel
theorem dX8_climb_23 : decode cX8_climb 23 = .ok (.aload_n 0, 1) := by decide +kernel
theorem dX8_climb_24 : decode cX8_climb 24 = .ok (.getfield 98, 3) := by decide +kernel
theorem dX8_climb_27 : decode cX8_climb 27 = .ok (.bipush 6, 2) := by decide +kernel
theorem dX8_climb_29 : decode cX8_climb 29 = .ok (.aload_n 0, 1) := by decide +kernel
theorem dX8_climb_30 : decode cX8_climb 30 = .ok (.getfield 124, 3) := by decide +kernel
theorem dX8_climb_33 : decode cX8_climb 33 = .ok (.imul, 1) := by decide +kernel
theorem dX8_climb_34 : decode cX8_climb 34 = .ok (.iload_n 1, 1) := by decide +kernel
theorem dX8_climb_35 : decode cX8_climb 35 = .ok (.iadd, 1) := by decide +kernel
theorem dX8_climb_36 : decode cX8_climb 36 = .ok (.iaload, 1) := by decide +kernel
theorem dX8_climb_37 : decode cX8_climb 37 = .ok (.ireturn, 1) := by decide +kernel
theorem dX8_limit_0 : decode cX8_limit 0 = .ok (.aload_n 0, 1) := by decide +kernel
theorem dX8_limit_1 : decode cX8_limit 1 = .ok (.getfield 101, 3) := by decide +kernel
theorem dX8_limit_4 : decode cX8_limit 4 = .ok (.iconst 4, 1) := by decide +kernel
theorem dX8_limit_5 : decode cX8_limit 5 = .ok (.aload_n 0, 1) := by decide +kernel
theorem dX8_limit_6 : decode cX8_limit 6 = .ok (.getfield 124, 3) := by decide +kernel
theorem dX8_limit_9 : decode cX8_limit 9 = .ok (.imul, 1) := by decide +kernel
theorem dX8_limit_10 : decode cX8_limit 10 = .ok (.iload_n 1, 1) := by decide +kernel
theorem dX8_limit_11 : decode cX8_limit 11 = .ok (.iadd, 1) := by decide +kernel
theorem dX8_limit_12 : decode cX8_limit 12 = .ok (.iaload, 1) := by decide +kernel
theorem dX8_limit_13 : decode cX8_limit 13 = .ok (.istore_n 2, 1) := by decide +kernel
theorem dX8_limit_14 : decode cX8_limit 14 = .ok (.iload_n 2, 1) := by decide +kernel
theorem dX8_limit_15 : decode cX8_limit 15 = .ok (.ldc 120, 2) := by decide +kernel
theorem dX8_limit_17 : decode cX8_limit 17 = .ok (.if_icmp .eq 7, 3) := by decide +kernel
theorem dX8_limit_20 : decode cX8_limit 20 = .ok (.iload_n 2, 1) := by decide +kernel
theorem dX8_limit_21 : decode cX8_limit 21 = .ok (.goto 24, 3) := by decide +kernel
theorem dX8_limit_24 : decode cX8_limit 24 = .ok (.iload_n 1, 1) := by decide +kernel
theorem dX8_limit_25 : decode cX8_limit 25 = .ok (.ifCond .ne 9, 3) := by decide +kernel
theorem dX8_limit_28 : decode cX8_limit 28 = .ok (.sipush 30000, 3) := by decide +kernel
theorem dX8_limit_31 : decode cX8_limit 31 = .ok (.goto 14, 3) := by decide +kernel
theorem dX8_limit_34 : decode cX8_limit 34 = .ok (.iload_n 1, 1) := by decide +kernel
theorem dX8_limit_35 : decode cX8_limit 35 = .ok (.iconst 3, 1) := by decide +kernel
theorem dX8_limit_36 : decode cX8_limit 36 = .ok (.if_icmp .ne 7, 3) := by decide +kernel
theorem dX8_limit_39 : decode cX8_limit 39 = .ok (.iconst 0, 1) := by decide +kernel
theorem dX8_limit_40 : decode cX8_limit 40 = .ok (.goto 5, 3) := by decide +kernel
theorem dX8_limit_43 : decode cX8_limit 43 = .ok (.ldc 176, 2) := by decide +kernel
theorem dX8_limit_45 : decode cX8_limit 45 = .ok (.ireturn, 1) := by decide +kernel
theorem dX8_isLevel_0 : decode cX8_isLevel 0 = .ok (.iload_n 0, 1) := by decide +kernel
theorem dX8_isLevel_1 : decode cX8_isLevel 1 = .ok (.ifCond .lt 13, 3) := by decide +kernel
theorem dX8_isLevel_4 : decode cX8_isLevel 4 = .ok (.iload_n 0, 1) := by decide +kernel
theorem dX8_isLevel_5 : decode cX8_isLevel 5 = .ok (.bipush 6, 2) := by decide +kernel
theorem dX8_isLevel_7 : decode cX8_isLevel 7 = .ok (.if_icmp .ge 7, 3) := by decide +kernel
theorem dX8_isLevel_10 : decode cX8_isLevel 10 = .ok (.iconst 1, 1) := by decide +kernel
theorem dX8_isLevel_11 : decode cX8_isLevel 11 = .ok (.goto 4, 3) := by decide +kernel
theorem dX8_isLevel_14 : decode cX8_isLevel 14 = .ok (.iconst 0, 1) := by decide +kernel
theorem dX8_isLevel_15 : decode cX8_isLevel 15 = .ok (.ireturn, 1) := by decide +kernel
theorem dX8_isWorld_0 : decode cX8_isWorld 0 = .ok (.iload_n 0, 1) := by decide +kernel
theorem dX8_isWorld_1 : decode cX8_isWorld 1 = .ok (.ifCond .lt 12, 3) := by decide +kernel
theorem dX8_isWorld_4 : decode cX8_isWorld 4 = .ok (.iload_n 0, 1) := by decide +kernel
theorem dX8_isWorld_5 : decode cX8_isWorld 5 = .ok (.iconst 3, 1) := by decide +kernel
theorem dX8_isWorld_6 : decode cX8_isWorld 6 = .ok (.if_icmp .ge 7, 3) := by decide +kernel
theorem dX8_isWorld_9 : decode cX8_isWorld 9 = .ok (.iconst 1, 1) := by decide +kernel
theorem dX8_isWorld_10 : decode cX8_isWorld 10 = .ok (.goto 4, 3) := by decide +kernel
theorem dX8_isWorld_13 : decode cX8_isWorld 13 = .ok (.iconst 0, 1) := by decide +kernel
theorem dX8_isWorld_14 : decode cX8_isWorld 14 = .ok (.ireturn, 1) := by decide +kernel
theorem dX8_isLeg_0 : decode cX8_isLeg 0 = .ok (.iload_n 1, 1) := by decide +kernel
theorem dX8_isLeg_1 : decode cX8_isLeg 1 = .ok (.ifCond .lt 20, 3) := by decide +kernel
theorem dX8_isLeg_4 : decode cX8_isLeg 4 = .ok (.iload_n 1, 1) := by decide +kernel
theorem dX8_isLeg_5 : decode cX8_isLeg 5 = .ok (.aload_n 0, 1) := by decide +kernel
theorem dX8_isLeg_6 : decode cX8_isLeg 6 = .ok (.getfield 65, 3) := by decide +kernel
theorem dX8_isLeg_9 : decode cX8_isLeg 9 = .ok (.aload_n 0, 1) := by decide +kernel
theorem dX8_isLeg_10 : decode cX8_isLeg 10 = .ok (.getfield 124, 3) := by decide +kernel
theorem dX8_isLeg_13 : decode cX8_isLeg 13 = .ok (.iaload, 1) := by decide +kernel
theorem dX8_isLeg_14 : decode cX8_isLeg 14 = .ok (.if_icmp .ge 7, 3) := by decide +kernel
theorem dX8_isLeg_17 : decode cX8_isLeg 17 = .ok (.iconst 1, 1) := by decide +kernel
theorem dX8_isLeg_18 : decode cX8_isLeg 18 = .ok (.goto 4, 3) := by decide +kernel
theorem dX8_isLeg_21 : decode cX8_isLeg 21 = .ok (.iconst 0, 1) := by decide +kernel
theorem dX8_isLeg_22 : decode cX8_isLeg 22 = .ok (.ireturn, 1) := by decide +kernel
theorem dX8_told_0 : decode cX8_told 0 = .ok (.iload_n 1, 1) := by decide +kernel
theorem dX8_told_1 : decode cX8_told 1 = .ok (.tableswitch 160 0 7 #[47, 66, 104, 133, 152, 152, 152, 152], 47) := by decide +kernel
theorem dX8_told_48 : decode cX8_told 48 = .ok (.iload_n 2, 1) := by decide +kernel
theorem dX8_told_49 : decode cX8_told 49 = .ok (.invokestatic 205, 3) := by decide +kernel
theorem dX8_told_52 : decode cX8_told 52 = .ok (.ifCond .eq 11, 3) := by decide +kernel
theorem dX8_told_55 : decode cX8_told 55 = .ok (.aload_n 0, 1) := by decide +kernel
theorem dX8_told_56 : decode cX8_told 56 = .ok (.iload_n 2, 1) := by decide +kernel
theorem dX8_told_57 : decode cX8_told 57 = .ok (.invokevirtual 208, 3) := by decide +kernel
theorem dX8_told_60 : decode cX8_told 60 = .ok (.goto 6, 3) := by decide +kernel
theorem dX8_told_63 : decode cX8_told 63 = .ok (.sipush (-1000), 3) := by decide +kernel
theorem dX8_told_66 : decode cX8_told 66 = .ok (.ireturn, 1) := by decide +kernel
theorem dX8_told_67 : decode cX8_told 67 = .ok (.iload_n 2, 1) := by decide +kernel
theorem dX8_told_68 : decode cX8_told 68 = .ok (.invokestatic 211, 3) := by decide +kernel
theorem dX8_told_71 : decode cX8_told 71 = .ok (.ifCond .eq 30, 3) := by decide +kernel
theorem dX8_told_74 : decode cX8_told 74 = .ok (.iload_n 3, 1) := by decide +kernel
theorem dX8_told_75 : decode cX8_told 75 = .ok (.invokestatic 205, 3) := by decide +kernel
theorem dX8_told_78 : decode cX8_told 78 = .ok (.ifCond .eq 23, 3) := by decide +kernel
theorem dX8_told_81 : decode cX8_told 81 = .ok (.aload_n 0, 1) := by decide +kernel
theorem dX8_told_82 : decode cX8_told 82 = .ok (.iload 4, 2) := by decide +kernel
theorem dX8_told_84 : decode cX8_told 84 = .ok (.invokevirtual 214, 3) := by decide +kernel
theorem dX8_told_87 : decode cX8_told 87 = .ok (.ifCond .eq 14, 3) := by decide +kernel
theorem dX8_told_90 : decode cX8_told 90 = .ok (.aload_n 0, 1) := by decide +kernel
theorem dX8_told_91 : decode cX8_told 91 = .ok (.iload_n 2, 1) := by decide +kernel
theorem dX8_told_92 : decode cX8_told 92 = .ok (.iload_n 3, 1) := by decide +kernel
theorem dX8_told_93 : decode cX8_told 93 = .ok (.iload 4, 2) := by decide +kernel
theorem dX8_told_95 : decode cX8_told 95 = .ok (.invokevirtual 217, 3) := by decide +kernel
theorem dX8_told_98 : decode cX8_told 98 = .ok (.goto 6, 3) := by decide +kernel
theorem dX8_told_101 : decode cX8_told 101 = .ok (.sipush (-1000), 3) := by decide +kernel
theorem dX8_told_104 : decode cX8_told 104 = .ok (.ireturn, 1) := by decide +kernel
theorem dX8_told_105 : decode cX8_told 105 = .ok (.iload_n 2, 1) := by decide +kernel
theorem dX8_told_106 : decode cX8_told 106 = .ok (.invokestatic 205, 3) := by decide +kernel
theorem dX8_told_109 : decode cX8_told 109 = .ok (.ifCond .eq 21, 3) := by decide +kernel
theorem dX8_told_112 : decode cX8_told 112 = .ok (.iload_n 3, 1) := by decide +kernel
theorem dX8_told_113 : decode cX8_told 113 = .ok (.ifCond .lt 17, 3) := by decide +kernel
theorem dX8_told_116 : decode cX8_told 116 = .ok (.iload_n 3, 1) := by decide +kernel
theorem dX8_told_117 : decode cX8_told 117 = .ok (.iconst 5, 1) := by decide +kernel
theorem dX8_told_118 : decode cX8_told 118 = .ok (.if_icmp .ge 12, 3) := by decide +kernel
theorem dX8_told_121 : decode cX8_told 121 = .ok (.aload_n 0, 1) := by decide +kernel
theorem dX8_told_122 : decode cX8_told 122 = .ok (.iload_n 2, 1) := by decide +kernel
theorem dX8_told_123 : decode cX8_told 123 = .ok (.iload_n 3, 1) := by decide +kernel
theorem dX8_told_124 : decode cX8_told 124 = .ok (.invokevirtual 221, 3) := by decide +kernel
theorem dX8_told_127 : decode cX8_told 127 = .ok (.goto 6, 3) := by decide +kernel
theorem dX8_told_130 : decode cX8_told 130 = .ok (.sipush (-1000), 3) := by decide +kernel
theorem dX8_told_133 : decode cX8_told 133 = .ok (.ireturn, 1) := by decide +kernel
theorem dX8_told_134 : decode cX8_told 134 = .ok (.iload_n 2, 1) := by decide +kernel
theorem dX8_told_135 : decode cX8_told 135 = .ok (.invokestatic 205, 3) := by decide +kernel
theorem dX8_told_138 : decode cX8_told 138 = .ok (.ifCond .eq 11, 3) := by decide +kernel
theorem dX8_told_141 : decode cX8_told 141 = .ok (.aload_n 0, 1) := by decide +kernel
theorem dX8_told_142 : decode cX8_told 142 = .ok (.iload_n 2, 1) := by decide +kernel
theorem dX8_told_143 : decode cX8_told 143 = .ok (.invokevirtual 224, 3) := by decide +kernel
theorem dX8_told_146 : decode cX8_told 146 = .ok (.goto 6, 3) := by decide +kernel
theorem dX8_told_149 : decode cX8_told 149 = .ok (.sipush (-1000), 3) := by decide +kernel
theorem dX8_told_152 : decode cX8_told 152 = .ok (.ireturn, 1) := by decide +kernel
theorem dX8_told_153 : decode cX8_told 153 = .ok (.aload_n 0, 1) := by decide +kernel
theorem dX8_told_154 : decode cX8_told 154 = .ok (.iload_n 1, 1) := by decide +kernel
theorem dX8_told_155 : decode cX8_told 155 = .ok (.iconst 4, 1) := by decide +kernel
theorem dX8_told_156 : decode cX8_told 156 = .ok (.isub, 1) := by decide +kernel
theorem dX8_told_157 : decode cX8_told 157 = .ok (.invokevirtual 227, 3) := by decide +kernel
theorem dX8_told_160 : decode cX8_told 160 = .ok (.ireturn, 1) := by decide +kernel
theorem dX8_told_161 : decode cX8_told 161 = .ok (.sipush (-1000), 3) := by decide +kernel
theorem dX8_told_164 : decode cX8_told 164 = .ok (.ireturn, 1) := by decide +kernel
theorem dX8_isPoint_0 : decode cX8_isPoint 0 = .ok (.iload_n 0, 1) := by decide +kernel
theorem dX8_isPoint_1 : decode cX8_isPoint 1 = .ok (.ifCond .lt 13, 3) := by decide +kernel
theorem dX8_isPoint_4 : decode cX8_isPoint 4 = .ok (.iload_n 0, 1) := by decide +kernel
theorem dX8_isPoint_5 : decode cX8_isPoint 5 = .ok (.bipush 10, 2) := by decide +kernel
theorem dX8_isPoint_7 : decode cX8_isPoint 7 = .ok (.if_icmp .ge 7, 3) := by decide +kernel
theorem dX8_isPoint_10 : decode cX8_isPoint 10 = .ok (.iconst 1, 1) := by decide +kernel
theorem dX8_isPoint_11 : decode cX8_isPoint 11 = .ok (.goto 4, 3) := by decide +kernel
theorem dX8_isPoint_14 : decode cX8_isPoint 14 = .ok (.iconst 0, 1) := by decide +kernel
theorem dX8_isPoint_15 : decode cX8_isPoint 15 = .ok (.ireturn, 1) := by decide +kernel
theorem dX8_flight_0 : decode cX8_flight 0 = .ok (.iload_n 1, 1) := by decide +kernel
theorem dX8_flight_1 : decode cX8_flight 1 = .ok (.invokestatic 230, 3) := by decide +kernel
theorem dX8_flight_4 : decode cX8_flight 4 = .ok (.ifCond .eq 52, 3) := by decide +kernel
theorem dX8_flight_7 : decode cX8_flight 7 = .ok (.iload_n 2, 1) := by decide +kernel
theorem dX8_flight_8 : decode cX8_flight 8 = .ok (.invokestatic 230, 3) := by decide +kernel
theorem dX8_flight_11 : decode cX8_flight 11 = .ok (.ifCond .eq 45, 3) := by decide +kernel
theorem dX8_flight_14 : decode cX8_flight 14 = .ok (.iload_n 1, 1) := by decide +kernel
theorem dX8_flight_15 : decode cX8_flight 15 = .ok (.iload_n 2, 1) := by decide +kernel
theorem dX8_flight_16 : decode cX8_flight 16 = .ok (.if_icmp .eq 40, 3) := by decide +kernel
theorem dX8_flight_19 : decode cX8_flight 19 = .ok (.iload_n 3, 1) := by decide +kernel
theorem dX8_flight_20 : decode cX8_flight 20 = .ok (.ifCond .lt 36, 3) := by decide +kernel
theorem dX8_flight_23 : decode cX8_flight 23 = .ok (.iload_n 3, 1) := by decide +kernel
theorem dX8_flight_24 : decode cX8_flight 24 = .ok (.sipush 999, 3) := by decide +kernel
theorem dX8_flight_27 : decode cX8_flight 27 = .ok (.if_icmp .gt 29, 3) := by decide +kernel
theorem dX8_flight_30 : decode cX8_flight 30 = .ok (.iload 4, 2) := by decide +kernel
theorem dX8_flight_32 : decode cX8_flight 32 = .ok (.ifCond .lt 24, 3) := by decide +kernel
theorem dX8_flight_35 : decode cX8_flight 35 = .ok (.iload 4, 2) := by decide +kernel
theorem dX8_flight_37 : decode cX8_flight 37 = .ok (.sipush 30000, 3) := by decide +kernel
theorem dX8_flight_40 : decode cX8_flight 40 = .ok (.if_icmp .gt 16, 3) := by decide +kernel
theorem dX8_flight_43 : decode cX8_flight 43 = .ok (.iload 5, 2) := by decide +kernel
theorem dX8_flight_45 : decode cX8_flight 45 = .ok (.ifCond .lt 11, 3) := by decide +kernel
theorem dX8_flight_48 : decode cX8_flight 48 = .ok (.iload 5, 2) := by decide +kernel
theorem dX8_flight_50 : decode cX8_flight 50 = .ok (.sipush 10000, 3) := by decide +kernel
theorem dX8_flight_53 : decode cX8_flight 53 = .ok (.if_icmp .le 5, 3) := by decide +kernel
theorem dX8_flight_56 : decode cX8_flight 56 = .ok (.iconst 0, 1) := by decide +kernel
theorem dX8_flight_57 : decode cX8_flight 57 = .ok (.ireturn, 1) := by decide +kernel
theorem dX8_flight_58 : decode cX8_flight 58 = .ok (.aload_n 0, 1) := by decide +kernel
theorem dX8_flight_59 : decode cX8_flight 59 = .ok (.iload_n 1, 1) := by decide +kernel
theorem dX8_flight_60 : decode cX8_flight 60 = .ok (.putfield 233, 3) := by decide +kernel
theorem dX8_flight_63 : decode cX8_flight 63 = .ok (.aload_n 0, 1) := by decide +kernel
theorem dX8_flight_64 : decode cX8_flight 64 = .ok (.iload_n 2, 1) := by decide +kernel
theorem dX8_flight_65 : decode cX8_flight 65 = .ok (.putfield 236, 3) := by decide +kernel
theorem dX8_flight_68 : decode cX8_flight 68 = .ok (.aload_n 0, 1) := by decide +kernel
theorem dX8_flight_69 : decode cX8_flight 69 = .ok (.iload_n 3, 1) := by decide +kernel
theorem dX8_flight_70 : decode cX8_flight 70 = .ok (.putfield 239, 3) := by decide +kernel
theorem dX8_flight_73 : decode cX8_flight 73 = .ok (.aload_n 0, 1) := by decide +kernel
theorem dX8_flight_74 : decode cX8_flight 74 = .ok (.iload 4, 2) := by decide +kernel
theorem dX8_flight_76 : decode cX8_flight 76 = .ok (.putfield 242, 3) := by decide +kernel
theorem dX8_flight_79 : decode cX8_flight 79 = .ok (.aload_n 0, 1) := by decide +kernel
theorem dX8_flight_80 : decode cX8_flight 80 = .ok (.iload 5, 2) := by decide +kernel
theorem dX8_flight_82 : decode cX8_flight 82 = .ok (.putfield 245, 3) := by decide +kernel
theorem dX8_flight_85 : decode cX8_flight 85 = .ok (.aload_n 0, 1) := by decide +kernel
theorem dX8_flight_86 : decode cX8_flight 86 = .ok (.iconst 1, 1) := by decide +kernel
theorem dX8_flight_87 : decode cX8_flight 87 = .ok (.putfield 140, 3) := by decide +kernel
theorem dX8_flight_90 : decode cX8_flight 90 = .ok (.iconst 1, 1) := by decide +kernel
theorem dX8_flight_91 : decode cX8_flight 91 = .ok (.ireturn, 1) := by decide +kernel
theorem dX8_canAsk_0 : decode cX8_canAsk 0 = .ok (.aload_n 0, 1) := by decide +kernel
theorem dX8_canAsk_1 : decode cX8_canAsk 1 = .ok (.getfield 140, 3) := by decide +kernel
theorem dX8_canAsk_4 : decode cX8_canAsk 4 = .ok (.ifCond .eq 29, 3) := by decide +kernel
theorem dX8_canAsk_7 : decode cX8_canAsk 7 = .ok (.aload_n 0, 1) := by decide +kernel
theorem dX8_canAsk_8 : decode cX8_canAsk 8 = .ok (.iload_n 1, 1) := by decide +kernel
theorem dX8_canAsk_9 : decode cX8_canAsk 9 = .ok (.invokevirtual 214, 3) := by decide +kernel
theorem dX8_canAsk_12 : decode cX8_canAsk 12 = .ok (.ifCond .eq 21, 3) := by decide +kernel
theorem dX8_canAsk_15 : decode cX8_canAsk 15 = .ok (.iload_n 2, 1) := by decide +kernel
theorem dX8_canAsk_16 : decode cX8_canAsk 16 = .ok (.invokestatic 205, 3) := by decide +kernel
theorem dX8_canAsk_19 : decode cX8_canAsk 19 = .ok (.ifCond .eq 14, 3) := by decide +kernel
theorem dX8_canAsk_22 : decode cX8_canAsk 22 = .ok (.iload_n 3, 1) := by decide +kernel
theorem dX8_canAsk_23 : decode cX8_canAsk 23 = .ok (.invokestatic 211, 3) := by decide +kernel
theorem dX8_canAsk_26 : decode cX8_canAsk 26 = .ok (.ifCond .eq 7, 3) := by decide +kernel
theorem dX8_canAsk_29 : decode cX8_canAsk 29 = .ok (.iconst 1, 1) := by decide +kernel
theorem dX8_canAsk_30 : decode cX8_canAsk 30 = .ok (.goto 4, 3) := by decide +kernel
theorem dX8_canAsk_33 : decode cX8_canAsk 33 = .ok (.iconst 0, 1) := by decide +kernel
theorem dX8_canAsk_34 : decode cX8_canAsk 34 = .ok (.ireturn, 1) := by decide +kernel
theorem dX8_minutes_0 : decode cX8_minutes 0 = .ok (.aload_n 0, 1) := by decide +kernel
theorem dX8_minutes_1 : decode cX8_minutes 1 = .ok (.iload_n 1, 1) := by decide +kernel
theorem dX8_minutes_2 : decode cX8_minutes 2 = .ok (.iload_n 2, 1) := by decide +kernel
theorem dX8_minutes_3 : decode cX8_minutes 3 = .ok (.iload_n 3, 1) := by decide +kernel
theorem dX8_minutes_4 : decode cX8_minutes 4 = .ok (.invokevirtual 248, 3) := by decide +kernel
theorem dX8_minutes_7 : decode cX8_minutes 7 = .ok (.ifCond .eq 13, 3) := by decide +kernel
theorem dX8_minutes_10 : decode cX8_minutes 10 = .ok (.aload_n 0, 1) := by decide +kernel
theorem dX8_minutes_11 : decode cX8_minutes 11 = .ok (.iload_n 1, 1) := by decide +kernel
theorem dX8_minutes_12 : decode cX8_minutes 12 = .ok (.iload_n 2, 1) := by decide +kernel
theorem dX8_minutes_13 : decode cX8_minutes 13 = .ok (.iload_n 3, 1) := by decide +kernel
theorem dX8_minutes_14 : decode cX8_minutes 14 = .ok (.invokevirtual 252, 3) := by decide +kernel
theorem dX8_minutes_17 : decode cX8_minutes 17 = .ok (.goto 4, 3) := by decide +kernel
theorem dX8_minutes_20 : decode cX8_minutes 20 = .ok (.iconst (-1), 1) := by decide +kernel
theorem dX8_minutes_21 : decode cX8_minutes 21 = .ok (.ireturn, 1) := by decide +kernel
theorem dX8_fuel_0 : decode cX8_fuel 0 = .ok (.aload_n 0, 1) := by decide +kernel
theorem dX8_fuel_1 : decode cX8_fuel 1 = .ok (.iload_n 1, 1) := by decide +kernel
theorem dX8_fuel_2 : decode cX8_fuel 2 = .ok (.iload_n 2, 1) := by decide +kernel
theorem dX8_fuel_3 : decode cX8_fuel 3 = .ok (.iload_n 3, 1) := by decide +kernel
theorem dX8_fuel_4 : decode cX8_fuel 4 = .ok (.invokevirtual 248, 3) := by decide +kernel
theorem dX8_fuel_7 : decode cX8_fuel 7 = .ok (.ifCond .eq 15, 3) := by decide +kernel
theorem dX8_fuel_10 : decode cX8_fuel 10 = .ok (.iload 4, 2) := by decide +kernel
theorem dX8_fuel_12 : decode cX8_fuel 12 = .ok (.ifCond .lt 10, 3) := by decide +kernel
theorem dX8_fuel_15 : decode cX8_fuel 15 = .ok (.iload 4, 2) := by decide +kernel
theorem dX8_fuel_17 : decode cX8_fuel 17 = .ok (.ldc 176, 2) := by decide +kernel
theorem dX8_fuel_19 : decode cX8_fuel 19 = .ok (.if_icmp .le 5, 3) := by decide +kernel
theorem dX8_fuel_22 : decode cX8_fuel 22 = .ok (.iconst (-1), 1) := by decide +kernel
theorem dX8_fuel_23 : decode cX8_fuel 23 = .ok (.ireturn, 1) := by decide +kernel
theorem dX8_fuel_24 : decode cX8_fuel 24 = .ok (.aload_n 0, 1) := by decide +kernel
theorem dX8_fuel_25 : decode cX8_fuel 25 = .ok (.iload_n 1, 1) := by decide +kernel
theorem dX8_fuel_26 : decode cX8_fuel 26 = .ok (.iload_n 2, 1) := by decide +kernel
theorem dX8_fuel_27 : decode cX8_fuel 27 = .ok (.iload_n 3, 1) := by decide +kernel
theorem dX8_fuel_28 : decode cX8_fuel 28 = .ok (.invokevirtual 252, 3) := by decide +kernel
theorem dX8_fuel_31 : decode cX8_fuel 31 = .ok (.istore 5, 2) := by decide +kernel
theorem dX8_fuel_33 : decode cX8_fuel 33 = .ok (.iload 5, 2) := by decide +kernel
theorem dX8_fuel_35 : decode cX8_fuel 35 = .ok (.ifCond .ge 7, 3) := by decide +kernel
theorem dX8_fuel_38 : decode cX8_fuel 38 = .ok (.iconst (-1), 1) := by decide +kernel
theorem dX8_fuel_39 : decode cX8_fuel 39 = .ok (.goto 12, 3) := by decide +kernel
theorem dX8_fuel_42 : decode cX8_fuel 42 = .ok (.aload_n 0, 1) := by decide +kernel
theorem dX8_fuel_43 : decode cX8_fuel 43 = .ok (.iload 5, 2) := by decide +kernel
theorem dX8_fuel_45 : decode cX8_fuel 45 = .ok (.iload_n 2, 1) := by decide +kernel
theorem dX8_fuel_46 : decode cX8_fuel 46 = .ok (.iload 4, 2) := by decide +kernel
theorem dX8_fuel_48 : decode cX8_fuel 48 = .ok (.invokevirtual 255, 3) := by decide +kernel
theorem dX8_fuel_51 : decode cX8_fuel 51 = .ok (.ireturn, 1) := by decide +kernel
theorem dX8_seek_0 : decode cX8_seek 0 = .ok (.aload_n 0, 1) := by decide +kernel
theorem dX8_seek_1 : decode cX8_seek 1 = .ok (.iconst 0, 1) := by decide +kernel
theorem dX8_seek_2 : decode cX8_seek 2 = .ok (.putfield 265, 3) := by decide +kernel
theorem dX8_seek_5 : decode cX8_seek 5 = .ok (.aload_n 0, 1) := by decide +kernel
theorem dX8_seek_6 : decode cX8_seek 6 = .ok (.getfield 140, 3) := by decide +kernel
theorem dX8_seek_9 : decode cX8_seek 9 = .ok (.ifCond .eq 10, 3) := by decide +kernel
theorem dX8_seek_12 : decode cX8_seek 12 = .ok (.iload_n 1, 1) := by decide +kernel
theorem dX8_seek_13 : decode cX8_seek 13 = .ok (.invokestatic 211, 3) := by decide +kernel
theorem dX8_seek_16 : decode cX8_seek 16 = .ok (.ifCond .ne 5, 3) := by decide +kernel
theorem dX8_seek_19 : decode cX8_seek 19 = .ok (.iconst 0, 1) := by decide +kernel
theorem dX8_seek_20 : decode cX8_seek 20 = .ok (.ireturn, 1) := by decide +kernel
theorem dX8_seek_21 : decode cX8_seek 21 = .ok (.aload_n 0, 1) := by decide +kernel
theorem dX8_seek_22 : decode cX8_seek 22 = .ok (.iload_n 1, 1) := by decide +kernel
theorem dX8_seek_23 : decode cX8_seek 23 = .ok (.aload_n 0, 1) := by decide +kernel
theorem dX8_seek_24 : decode cX8_seek 24 = .ok (.getfield 236, 3) := by decide +kernel
theorem dX8_seek_27 : decode cX8_seek 27 = .ok (.invokevirtual 268, 3) := by decide +kernel
theorem dX8_seek_30 : decode cX8_seek 30 = .ok (.aload_n 0, 1) := by decide +kernel
theorem dX8_seek_31 : decode cX8_seek 31 = .ok (.aload_n 0, 1) := by decide +kernel
theorem dX8_seek_32 : decode cX8_seek 32 = .ok (.aload_n 0, 1) := by decide +kernel
theorem dX8_seek_33 : decode cX8_seek 33 = .ok (.getfield 233, 3) := by decide +kernel
theorem dX8_seek_36 : decode cX8_seek 36 = .ok (.iconst (-1), 1) := by decide +kernel
theorem dX8_seek_37 : decode cX8_seek 37 = .ok (.invokevirtual 262, 3) := by decide +kernel
theorem dX8_seek_40 : decode cX8_seek 40 = .ok (.putfield 271, 3) := by decide +kernel
theorem dX8_seek_43 : decode cX8_seek 43 = .ok (.aload_n 0, 1) := by decide +kernel
theorem dX8_seek_44 : decode cX8_seek 44 = .ok (.getfield 271, 3) := by decide +kernel
theorem dX8_seek_47 : decode cX8_seek 47 = .ok (.ldc_w 258, 3) := by decide +kernel
theorem dX8_seek_50 : decode cX8_seek 50 = .ok (.if_icmp .ne 5, 3) := by decide +kernel
theorem dX8_seek_53 : decode cX8_seek 53 = .ok (.iconst 0, 1) := by decide +kernel
theorem dX8_seek_54 : decode cX8_seek 54 = .ok (.ireturn, 1) := by decide +kernel
theorem dX8_seek_55 : decode cX8_seek 55 = .ok (.aload_n 0, 1) := by decide +kernel
theorem dX8_seek_56 : decode cX8_seek 56 = .ok (.getfield 233, 3) := by decide +kernel
theorem dX8_seek_59 : decode cX8_seek 59 = .ok (.istore_n 2, 1) := by decide +kernel
theorem dX8_seek_60 : decode cX8_seek 60 = .ok (.iconst (-1), 1) := by decide +kernel
theorem dX8_seek_61 : decode cX8_seek 61 = .ok (.istore_n 3, 1) := by decide +kernel
theorem dX8_seek_62 : decode cX8_seek 62 = .ok (.iload_n 2, 1) := by decide +kernel
theorem dX8_seek_63 : decode cX8_seek 63 = .ok (.aload_n 0, 1) := by decide +kernel
theorem dX8_seek_64 : decode cX8_seek 64 = .ok (.getfield 236, 3) := by decide +kernel
theorem dX8_seek_67 : decode cX8_seek 67 = .ok (.if_icmp .eq 144, 3) := by decide +kernel
theorem dX8_seek_70 : decode cX8_seek 70 = .ok (.aload_n 0, 1) := by decide +kernel
theorem dX8_seek_71 : decode cX8_seek 71 = .ok (.iload_n 2, 1) := by decide +kernel
theorem dX8_seek_72 : decode cX8_seek 72 = .ok (.iload_n 3, 1) := by decide +kernel
theorem dX8_seek_73 : decode cX8_seek 73 = .ok (.invokevirtual 262, 3) := by decide +kernel
theorem dX8_seek_76 : decode cX8_seek 76 = .ok (.istore 4, 2) := by decide +kernel
theorem dX8_seek_78 : decode cX8_seek 78 = .ok (.iconst 0, 1) := by decide +kernel
theorem dX8_seek_79 : decode cX8_seek 79 = .ok (.istore 5, 2) := by decide +kernel
theorem dX8_seek_81 : decode cX8_seek 81 = .ok (.aload_n 0, 1) := by decide +kernel
theorem dX8_seek_82 : decode cX8_seek 82 = .ok (.getfield 68, 3) := by decide +kernel
theorem dX8_seek_85 : decode cX8_seek 85 = .ok (.bipush 16, 2) := by decide +kernel
theorem dX8_seek_87 : decode cX8_seek 87 = .ok (.aload_n 0, 1) := by decide +kernel
theorem dX8_seek_88 : decode cX8_seek 88 = .ok (.getfield 124, 3) := by decide +kernel
theorem dX8_seek_91 : decode cX8_seek 91 = .ok (.imul, 1) := by decide +kernel
theorem dX8_seek_92 : decode cX8_seek 92 = .ok (.iload 5, 2) := by decide +kernel
theorem dX8_seek_94 : decode cX8_seek 94 = .ok (.bipush 6, 2) := by decide +kernel
theorem dX8_seek_96 : decode cX8_seek 96 = .ok (.idiv, 1) := by decide +kernel
theorem dX8_seek_97 : decode cX8_seek 97 = .ok (.iadd, 1) := by decide +kernel
theorem dX8_seek_98 : decode cX8_seek 98 = .ok (.iaload, 1) := by decide +kernel
theorem dX8_seek_99 : decode cX8_seek 99 = .ok (.iload_n 2, 1) := by decide +kernel
theorem dX8_seek_100 : decode cX8_seek 100 = .ok (.if_icmp .ne 39, 3) := by decide +kernel
theorem dX8_seek_103 : decode cX8_seek 103 = .ok (.aload_n 0, 1) := by decide +kernel
theorem dX8_seek_104 : decode cX8_seek 104 = .ok (.getfield 104, 3) := by decide +kernel
theorem dX8_seek_107 : decode cX8_seek 107 = .ok (.iload 5, 2) := by decide +kernel
theorem dX8_seek_109 : decode cX8_seek 109 = .ok (.iaload, 1) := by decide +kernel
theorem dX8_seek_110 : decode cX8_seek 110 = .ok (.ldc_w 258, 3) := by decide +kernel
theorem dX8_seek_113 : decode cX8_seek 113 = .ok (.if_icmp .eq 26, 3) := by decide +kernel
theorem dX8_seek_116 : decode cX8_seek 116 = .ok (.aload_n 0, 1) := by decide +kernel
theorem dX8_seek_117 : decode cX8_seek 117 = .ok (.iload_n 3, 1) := by decide +kernel
theorem dX8_seek_118 : decode cX8_seek 118 = .ok (.iload 5, 2) := by decide +kernel
theorem dX8_seek_120 : decode cX8_seek 120 = .ok (.bipush 6, 2) := by decide +kernel
theorem dX8_seek_122 : decode cX8_seek 122 = .ok (.irem, 1) := by decide +kernel
theorem dX8_seek_123 : decode cX8_seek 123 = .ok (.invokevirtual 259, 3) := by decide +kernel
theorem dX8_seek_126 : decode cX8_seek 126 = .ok (.aload_n 0, 1) := by decide +kernel
theorem dX8_seek_127 : decode cX8_seek 127 = .ok (.getfield 104, 3) := by decide +kernel
theorem dX8_seek_130 : decode cX8_seek 130 = .ok (.iload 5, 2) := by decide +kernel
theorem dX8_seek_132 : decode cX8_seek 132 = .ok (.iaload, 1) := by decide +kernel
theorem dX8_seek_133 : decode cX8_seek 133 = .ok (.iadd, 1) := by decide +kernel
theorem dX8_seek_134 : decode cX8_seek 134 = .ok (.iload 4, 2) := by decide +kernel
theorem dX8_seek_136 : decode cX8_seek 136 = .ok (.if_icmp .eq 9, 3) := by decide +kernel
theorem dX8_seek_139 : decode cX8_seek 139 = .ok (.iinc 5 1, 3) := by decide +kernel
theorem dX8_seek_142 : decode cX8_seek 142 = .ok (.goto (-61), 3) := by decide +kernel
theorem dX8_seek_145 : decode cX8_seek 145 = .ok (.aload_n 0, 1) := by decide +kernel
theorem dX8_seek_146 : decode cX8_seek 146 = .ok (.getfield 107, 3) := by decide +kernel
theorem dX8_seek_149 : decode cX8_seek 149 = .ok (.aload_n 0, 1) := by decide +kernel
theorem dX8_seek_150 : decode cX8_seek 150 = .ok (.getfield 265, 3) := by decide +kernel
theorem dX8_seek_153 : decode cX8_seek 153 = .ok (.iload 5, 2) := by decide +kernel
theorem dX8_seek_155 : decode cX8_seek 155 = .ok (.bipush 6, 2) := by decide +kernel
theorem dX8_seek_157 : decode cX8_seek 157 = .ok (.idiv, 1) := by decide +kernel
theorem dX8_seek_158 : decode cX8_seek 158 = .ok (.iastore, 1) := by decide +kernel
theorem dX8_seek_159 : decode cX8_seek 159 = .ok (.aload_n 0, 1) := by decide +kernel
theorem dX8_seek_160 : decode cX8_seek 160 = .ok (.getfield 110, 3) := by decide +kernel
theorem dX8_seek_163 : decode cX8_seek 163 = .ok (.aload_n 0, 1) := by decide +kernel
theorem dX8_seek_164 : decode cX8_seek 164 = .ok (.getfield 265, 3) := by decide +kernel
theorem dX8_seek_167 : decode cX8_seek 167 = .ok (.iload 5, 2) := by decide +kernel
theorem dX8_seek_169 : decode cX8_seek 169 = .ok (.bipush 6, 2) := by decide +kernel
theorem dX8_seek_171 : decode cX8_seek 171 = .ok (.irem, 1) := by decide +kernel
theorem dX8_seek_172 : decode cX8_seek 172 = .ok (.iastore, 1) := by decide +kernel
theorem dX8_seek_173 : decode cX8_seek 173 = .ok (.aload_n 0, 1) := by decide +kernel
theorem dX8_seek_174 : decode cX8_seek 174 = .ok (.dup, 1) := by decide +kernel
theorem dX8_seek_175 : decode cX8_seek 175 = .ok (.getfield 265, 3) := by decide +kernel
theorem dX8_seek_178 : decode cX8_seek 178 = .ok (.iconst 1, 1) := by decide +kernel
theorem dX8_seek_179 : decode cX8_seek 179 = .ok (.iadd, 1) := by decide +kernel
theorem dX8_seek_180 : decode cX8_seek 180 = .ok (.putfield 265, 3) := by decide +kernel
theorem dX8_seek_183 : decode cX8_seek 183 = .ok (.iload 5, 2) := by decide +kernel
theorem dX8_seek_185 : decode cX8_seek 185 = .ok (.bipush 6, 2) := by decide +kernel
theorem dX8_seek_187 : decode cX8_seek 187 = .ok (.irem, 1) := by decide +kernel
theorem dX8_seek_188 : decode cX8_seek 188 = .ok (.istore_n 3, 1) := by decide +kernel
theorem dX8_seek_189 : decode cX8_seek 189 = .ok (.aload_n 0, 1) := by decide +kernel
theorem dX8_seek_190 : decode cX8_seek 190 = .ok (.getfield 71, 3) := by decide +kernel
theorem dX8_seek_193 : decode cX8_seek 193 = .ok (.bipush 16, 2) := by decide +kernel
theorem dX8_seek_195 : decode cX8_seek 195 = .ok (.aload_n 0, 1) := by decide +kernel
theorem dX8_seek_196 : decode cX8_seek 196 = .ok (.getfield 124, 3) := by decide +kernel
theorem dX8_seek_199 : decode cX8_seek 199 = .ok (.imul, 1) := by decide +kernel
theorem dX8_seek_200 : decode cX8_seek 200 = .ok (.iload 5, 2) := by decide +kernel
theorem dX8_seek_202 : decode cX8_seek 202 = .ok (.bipush 6, 2) := by decide +kernel
theorem dX8_seek_204 : decode cX8_seek 204 = .ok (.idiv, 1) := by decide +kernel
theorem dX8_seek_205 : decode cX8_seek 205 = .ok (.iadd, 1) := by decide +kernel
theorem dX8_seek_206 : decode cX8_seek 206 = .ok (.iaload, 1) := by decide +kernel
theorem dX8_seek_207 : decode cX8_seek 207 = .ok (.istore_n 2, 1) := by decide +kernel
theorem dX8_seek_208 : decode cX8_seek 208 = .ok (.goto (-146), 3) := by decide +kernel
theorem dX8_seek_211 : decode cX8_seek 211 = .ok (.iconst 1, 1) := by decide +kernel
theorem dX8_seek_212 : decode cX8_seek 212 = .ok (.ireturn, 1) := by decide +kernel
theorem dX8_need_0 : decode cX8_need 0 = .ok (.aload_n 0, 1) := by decide +kernel
theorem dX8_need_1 : decode cX8_need 1 = .ok (.iload_n 1, 1) := by decide +kernel
theorem dX8_need_2 : decode cX8_need 2 = .ok (.invokevirtual 274, 3) := by decide +kernel
theorem dX8_need_5 : decode cX8_need 5 = .ok (.ifCond .eq 10, 3) := by decide +kernel
theorem dX8_need_8 : decode cX8_need 8 = .ok (.aload_n 0, 1) := by decide +kernel
theorem dX8_need_9 : decode cX8_need 9 = .ok (.getfield 271, 3) := by decide +kernel
theorem dX8_need_12 : decode cX8_need 12 = .ok (.goto 4, 3) := by decide +kernel
theorem dX8_need_15 : decode cX8_need 15 = .ok (.iconst (-1), 1) := by decide +kernel
theorem dX8_need_16 : decode cX8_need 16 = .ok (.ireturn, 1) := by decide +kernel
theorem dX8_legs_0 : decode cX8_legs 0 = .ok (.aload_n 0, 1) := by decide +kernel
theorem dX8_legs_1 : decode cX8_legs 1 = .ok (.iload_n 1, 1) := by decide +kernel
theorem dX8_legs_2 : decode cX8_legs 2 = .ok (.invokevirtual 274, 3) := by decide +kernel
theorem dX8_legs_5 : decode cX8_legs 5 = .ok (.ifCond .eq 10, 3) := by decide +kernel
theorem dX8_legs_8 : decode cX8_legs 8 = .ok (.aload_n 0, 1) := by decide +kernel
theorem dX8_legs_9 : decode cX8_legs 9 = .ok (.getfield 265, 3) := by decide +kernel
theorem dX8_legs_12 : decode cX8_legs 12 = .ok (.goto 4, 3) := by decide +kernel
theorem dX8_legs_15 : decode cX8_legs 15 = .ok (.iconst (-1), 1) := by decide +kernel
theorem dX8_legs_16 : decode cX8_legs 16 = .ok (.ireturn, 1) := by decide +kernel
theorem dX8_leg_0 : decode cX8_leg 0 = .ok (.aload_n 0, 1) := by decide +kernel
theorem dX8_leg_1 : decode cX8_leg 1 = .ok (.iload_n 1, 1) := by decide +kernel
theorem dX8_leg_2 : decode cX8_leg 2 = .ok (.invokevirtual 274, 3) := by decide +kernel
theorem dX8_leg_5 : decode cX8_leg 5 = .ok (.ifCond .eq 15, 3) := by decide +kernel
theorem dX8_leg_8 : decode cX8_leg 8 = .ok (.iload_n 2, 1) := by decide +kernel
theorem dX8_leg_9 : decode cX8_leg 9 = .ok (.ifCond .lt 11, 3) := by decide +kernel
theorem dX8_leg_12 : decode cX8_leg 12 = .ok (.iload_n 2, 1) := by decide +kernel
theorem dX8_leg_13 : decode cX8_leg 13 = .ok (.aload_n 0, 1) := by decide +kernel
theorem dX8_leg_14 : decode cX8_leg 14 = .ok (.getfield 265, 3) := by decide +kernel
theorem dX8_leg_17 : decode cX8_leg 17 = .ok (.if_icmp .lt 5, 3) := by decide +kernel
theorem dX8_leg_20 : decode cX8_leg 20 = .ok (.iconst (-1), 1) := by decide +kernel
theorem dX8_leg_21 : decode cX8_leg 21 = .ok (.ireturn, 1) := by decide +kernel
theorem dX8_leg_22 : decode cX8_leg 22 = .ok (.aload_n 0, 1) := by decide +kernel
theorem dX8_leg_23 : decode cX8_leg 23 = .ok (.aload_n 0, 1) := by decide +kernel
theorem dX8_leg_24 : decode cX8_leg 24 = .ok (.getfield 107, 3) := by decide +kernel
theorem dX8_leg_27 : decode cX8_leg 27 = .ok (.iload_n 2, 1) := by decide +kernel
theorem dX8_leg_28 : decode cX8_leg 28 = .ok (.iaload, 1) := by decide +kernel
theorem dX8_leg_29 : decode cX8_leg 29 = .ok (.aload_n 0, 1) := by decide +kernel
theorem dX8_leg_30 : decode cX8_leg 30 = .ok (.getfield 110, 3) := by decide +kernel
theorem dX8_leg_33 : decode cX8_leg 33 = .ok (.iload_n 2, 1) := by decide +kernel
theorem dX8_leg_34 : decode cX8_leg 34 = .ok (.iaload, 1) := by decide +kernel
theorem dX8_leg_35 : decode cX8_leg 35 = .ok (.iload_n 1, 1) := by decide +kernel
theorem dX8_leg_36 : decode cX8_leg 36 = .ok (.invokevirtual 252, 3) := by decide +kernel
theorem dX8_leg_39 : decode cX8_leg 39 = .ok (.istore 4, 2) := by decide +kernel
theorem dX8_leg_41 : decode cX8_leg 41 = .ok (.iload_n 3, 1) := by decide +kernel
theorem dX8_leg_42 : decode cX8_leg 42 = .ok (.tableswitch 72 0 3 #[30, 37, 44, 47], 30) := by decide +kernel
theorem dX8_leg_72 : decode cX8_leg 72 = .ok (.aload_n 0, 1) := by decide +kernel
theorem dX8_leg_73 : decode cX8_leg 73 = .ok (.getfield 107, 3) := by decide +kernel
theorem dX8_leg_76 : decode cX8_leg 76 = .ok (.iload_n 2, 1) := by decide +kernel
theorem dX8_leg_77 : decode cX8_leg 77 = .ok (.iaload, 1) := by decide +kernel
theorem dX8_leg_78 : decode cX8_leg 78 = .ok (.ireturn, 1) := by decide +kernel
theorem dX8_leg_79 : decode cX8_leg 79 = .ok (.aload_n 0, 1) := by decide +kernel
theorem dX8_leg_80 : decode cX8_leg 80 = .ok (.getfield 110, 3) := by decide +kernel
theorem dX8_leg_83 : decode cX8_leg 83 = .ok (.iload_n 2, 1) := by decide +kernel
theorem dX8_leg_84 : decode cX8_leg 84 = .ok (.iaload, 1) := by decide +kernel
theorem dX8_leg_85 : decode cX8_leg 85 = .ok (.ireturn, 1) := by decide +kernel
theorem dX8_leg_86 : decode cX8_leg 86 = .ok (.iload 4, 2) := by decide +kernel
theorem dX8_leg_88 : decode cX8_leg 88 = .ok (.ireturn, 1) := by decide +kernel
theorem dX8_leg_89 : decode cX8_leg 89 = .ok (.aload_n 0, 1) := by decide +kernel
theorem dX8_leg_90 : decode cX8_leg 90 = .ok (.iload 4, 2) := by decide +kernel
theorem dX8_leg_92 : decode cX8_leg 92 = .ok (.aload_n 0, 1) := by decide +kernel
theorem dX8_leg_93 : decode cX8_leg 93 = .ok (.getfield 110, 3) := by decide +kernel
theorem dX8_leg_96 : decode cX8_leg 96 = .ok (.iload_n 2, 1) := by decide +kernel
theorem dX8_leg_97 : decode cX8_leg 97 = .ok (.iaload, 1) := by decide +kernel
theorem dX8_leg_98 : decode cX8_leg 98 = .ok (.aload_n 0, 1) := by decide +kernel
theorem dX8_leg_99 : decode cX8_leg 99 = .ok (.iload_n 1, 1) := by decide +kernel
theorem dX8_leg_100 : decode cX8_leg 100 = .ok (.iload_n 2, 1) := by decide +kernel
theorem dX8_leg_101 : decode cX8_leg 101 = .ok (.iconst 1, 1) := by decide +kernel
theorem dX8_leg_102 : decode cX8_leg 102 = .ok (.iadd, 1) := by decide +kernel
theorem dX8_leg_103 : decode cX8_leg 103 = .ok (.aload_n 0, 1) := by decide +kernel
theorem dX8_leg_104 : decode cX8_leg 104 = .ok (.getfield 245, 3) := by decide +kernel
theorem dX8_leg_107 : decode cX8_leg 107 = .ok (.invokevirtual 277, 3) := by decide +kernel
theorem dX8_leg_110 : decode cX8_leg 110 = .ok (.invokevirtual 255, 3) := by decide +kernel
theorem dX8_leg_113 : decode cX8_leg 113 = .ok (.ireturn, 1) := by decide +kernel
theorem dX8_leg_114 : decode cX8_leg 114 = .ok (.iconst (-1), 1) := by decide +kernel
theorem dX8_leg_115 : decode cX8_leg 115 = .ok (.ireturn, 1) := by decide +kernel
theorem dX8_time_0 : decode cX8_time 0 = .ok (.aload_n 0, 1) := by decide +kernel
theorem dX8_time_1 : decode cX8_time 1 = .ok (.iload_n 1, 1) := by decide +kernel
theorem dX8_time_2 : decode cX8_time 2 = .ok (.invokevirtual 274, 3) := by decide +kernel
theorem dX8_time_5 : decode cX8_time 5 = .ok (.ifCond .ne 5, 3) := by decide +kernel
theorem dX8_time_8 : decode cX8_time 8 = .ok (.iconst (-1), 1) := by decide +kernel
theorem dX8_time_9 : decode cX8_time 9 = .ok (.ireturn, 1) := by decide +kernel
theorem dX8_time_10 : decode cX8_time 10 = .ok (.iconst 0, 1) := by decide +kernel
theorem dX8_time_11 : decode cX8_time 11 = .ok (.istore_n 2, 1) := by decide +kernel
theorem dX8_time_12 : decode cX8_time 12 = .ok (.iconst 0, 1) := by decide +kernel
theorem dX8_time_13 : decode cX8_time 13 = .ok (.istore_n 3, 1) := by decide +kernel
theorem dX8_time_14 : decode cX8_time 14 = .ok (.iload_n 3, 1) := by decide +kernel
theorem dX8_time_15 : decode cX8_time 15 = .ok (.aload_n 0, 1) := by decide +kernel
theorem dX8_time_16 : decode cX8_time 16 = .ok (.getfield 265, 3) := by decide +kernel
theorem dX8_time_19 : decode cX8_time 19 = .ok (.if_icmp .ge 29, 3) := by decide +kernel
theorem dX8_time_22 : decode cX8_time 22 = .ok (.iload_n 2, 1) := by decide +kernel
theorem dX8_time_23 : decode cX8_time 23 = .ok (.aload_n 0, 1) := by decide +kernel
theorem dX8_time_24 : decode cX8_time 24 = .ok (.aload_n 0, 1) := by decide +kernel
theorem dX8_time_25 : decode cX8_time 25 = .ok (.getfield 107, 3) := by decide +kernel
theorem dX8_time_28 : decode cX8_time 28 = .ok (.iload_n 3, 1) := by decide +kernel
theorem dX8_time_29 : decode cX8_time 29 = .ok (.iaload, 1) := by decide +kernel
theorem dX8_time_30 : decode cX8_time 30 = .ok (.aload_n 0, 1) := by decide +kernel
theorem dX8_time_31 : decode cX8_time 31 = .ok (.getfield 110, 3) := by decide +kernel
theorem dX8_time_34 : decode cX8_time 34 = .ok (.iload_n 3, 1) := by decide +kernel
theorem dX8_time_35 : decode cX8_time 35 = .ok (.iaload, 1) := by decide +kernel
theorem dX8_time_36 : decode cX8_time 36 = .ok (.iload_n 1, 1) := by decide +kernel
theorem dX8_time_37 : decode cX8_time 37 = .ok (.invokevirtual 252, 3) := by decide +kernel
theorem dX8_time_40 : decode cX8_time 40 = .ok (.iadd, 1) := by decide +kernel
theorem dX8_time_41 : decode cX8_time 41 = .ok (.istore_n 2, 1) := by decide +kernel
theorem dX8_time_42 : decode cX8_time 42 = .ok (.iinc 3 1, 3) := by decide +kernel
theorem dX8_time_45 : decode cX8_time 45 = .ok (.goto (-31), 3) := by decide +kernel
theorem dX8_time_48 : decode cX8_time 48 = .ok (.iload_n 2, 1) := by decide +kernel
theorem dX8_time_49 : decode cX8_time 49 = .ok (.ireturn, 1) := by decide +kernel
theorem dX8_legal_0 : decode cX8_legal 0 = .ok (.aload_n 0, 1) := by decide +kernel
theorem dX8_legal_1 : decode cX8_legal 1 = .ok (.iload_n 1, 1) := by decide +kernel
theorem dX8_legal_2 : decode cX8_legal 2 = .ok (.invokevirtual 274, 3) := by decide +kernel
theorem dX8_legal_5 : decode cX8_legal 5 = .ok (.ifCond .eq 18, 3) := by decide +kernel
theorem dX8_legal_8 : decode cX8_legal 8 = .ok (.aload_n 0, 1) := by decide +kernel
theorem dX8_legal_9 : decode cX8_legal 9 = .ok (.aload_n 0, 1) := by decide +kernel
theorem dX8_legal_10 : decode cX8_legal 10 = .ok (.getfield 271, 3) := by decide +kernel
theorem dX8_legal_13 : decode cX8_legal 13 = .ok (.aload_n 0, 1) := by decide +kernel
theorem dX8_legal_14 : decode cX8_legal 14 = .ok (.getfield 245, 3) := by decide +kernel
theorem dX8_legal_17 : decode cX8_legal 17 = .ok (.invokevirtual 280, 3) := by decide +kernel
theorem dX8_legal_20 : decode cX8_legal 20 = .ok (.goto 4, 3) := by decide +kernel
theorem dX8_legal_23 : decode cX8_legal 23 = .ok (.iconst (-1), 1) := by decide +kernel
theorem dX8_legal_24 : decode cX8_legal 24 = .ok (.ireturn, 1) := by decide +kernel
theorem dX8_borne_0 : decode cX8_borne 0 = .ok (.aload_n 0, 1) := by decide +kernel
theorem dX8_borne_1 : decode cX8_borne 1 = .ok (.getfield 140, 3) := by decide +kernel
theorem dX8_borne_4 : decode cX8_borne 4 = .ok (.ifCond .eq 13, 3) := by decide +kernel
theorem dX8_borne_7 : decode cX8_borne 7 = .ok (.iload_n 1, 1) := by decide +kernel
theorem dX8_borne_8 : decode cX8_borne 8 = .ok (.iconst 1, 1) := by decide +kernel
theorem dX8_borne_9 : decode cX8_borne 9 = .ok (.if_icmp .lt 8, 3) := by decide +kernel
theorem dX8_borne_12 : decode cX8_borne 12 = .ok (.iload_n 1, 1) := by decide +kernel
theorem dX8_borne_13 : decode cX8_borne 13 = .ok (.iconst 3, 1) := by decide +kernel
theorem dX8_borne_14 : decode cX8_borne 14 = .ok (.if_icmp .le 5, 3) := by decide +kernel
theorem dX8_borne_17 : decode cX8_borne 17 = .ok (.iconst (-1), 1) := by decide +kernel
theorem dX8_borne_18 : decode cX8_borne 18 = .ok (.ireturn, 1) := by decide +kernel
theorem dX8_borne_19 : decode cX8_borne 19 = .ok (.ldc_w 258, 3) := by decide +kernel
theorem dX8_borne_22 : decode cX8_borne 22 = .ok (.istore_n 2, 1) := by decide +kernel
theorem dX8_borne_23 : decode cX8_borne 23 = .ok (.iconst 0, 1) := by decide +kernel
theorem dX8_borne_24 : decode cX8_borne 24 = .ok (.istore_n 3, 1) := by decide +kernel
theorem dX8_borne_25 : decode cX8_borne 25 = .ok (.iload_n 3, 1) := by decide +kernel
theorem dX8_borne_26 : decode cX8_borne 26 = .ok (.iload_n 1, 1) := by decide +kernel
theorem dX8_borne_27 : decode cX8_borne 27 = .ok (.if_icmp .ge 80, 3) := by decide +kernel
theorem dX8_borne_30 : decode cX8_borne 30 = .ok (.aload_n 0, 1) := by decide +kernel
