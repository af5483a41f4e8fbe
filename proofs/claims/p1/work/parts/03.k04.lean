theorem dX8_borne_31 : decode cX8_borne 31 = .ok (.iload_n 3, 1) := by decide +kernel
theorem dX8_borne_32 : decode cX8_borne 32 = .ok (.invokevirtual 274, 3) := by decide +kernel
theorem dX8_borne_35 : decode cX8_borne 35 = .ok (.ifCond .ne 6, 3) := by decide +kernel
theorem dX8_borne_38 : decode cX8_borne 38 = .ok (.goto 63, 3) := by decide +kernel
theorem dX8_borne_41 : decode cX8_borne 41 = .ok (.iconst 0, 1) := by decide +kernel
theorem dX8_borne_42 : decode cX8_borne 42 = .ok (.istore 4, 2) := by decide +kernel
theorem dX8_borne_44 : decode cX8_borne 44 = .ok (.iconst 0, 1) := by decide +kernel
theorem dX8_borne_45 : decode cX8_borne 45 = .ok (.istore 5, 2) := by decide +kernel
theorem dX8_borne_47 : decode cX8_borne 47 = .ok (.iload 5, 2) := by decide +kernel
theorem dX8_borne_49 : decode cX8_borne 49 = .ok (.iload_n 1, 1) := by decide +kernel
theorem dX8_borne_50 : decode cX8_borne 50 = .ok (.if_icmp .ge 38, 3) := by decide +kernel
theorem dX8_borne_53 : decode cX8_borne 53 = .ok (.aload_n 0, 1) := by decide +kernel
theorem dX8_borne_54 : decode cX8_borne 54 = .ok (.iload 5, 2) := by decide +kernel
theorem dX8_borne_56 : decode cX8_borne 56 = .ok (.iconst 0, 1) := by decide +kernel
theorem dX8_borne_57 : decode cX8_borne 57 = .ok (.aload_n 0, 1) := by decide +kernel
theorem dX8_borne_58 : decode cX8_borne 58 = .ok (.getfield 245, 3) := by decide +kernel
theorem dX8_borne_61 : decode cX8_borne 61 = .ok (.invokevirtual 277, 3) := by decide +kernel
theorem dX8_borne_64 : decode cX8_borne 64 = .ok (.istore 6, 2) := by decide +kernel
theorem dX8_borne_66 : decode cX8_borne 66 = .ok (.iload 6, 2) := by decide +kernel
theorem dX8_borne_68 : decode cX8_borne 68 = .ok (.iload 4, 2) := by decide +kernel
theorem dX8_borne_70 : decode cX8_borne 70 = .ok (.if_icmp .le 8, 3) := by decide +kernel
theorem dX8_borne_73 : decode cX8_borne 73 = .ok (.iload 6, 2) := by decide +kernel
theorem dX8_borne_75 : decode cX8_borne 75 = .ok (.goto 5, 3) := by decide +kernel
theorem dX8_borne_78 : decode cX8_borne 78 = .ok (.iload 4, 2) := by decide +kernel
theorem dX8_borne_80 : decode cX8_borne 80 = .ok (.istore 4, 2) := by decide +kernel
theorem dX8_borne_82 : decode cX8_borne 82 = .ok (.iinc 5 1, 3) := by decide +kernel
theorem dX8_borne_85 : decode cX8_borne 85 = .ok (.goto (-38), 3) := by decide +kernel
theorem dX8_borne_88 : decode cX8_borne 88 = .ok (.iload 4, 2) := by decide +kernel
theorem dX8_borne_90 : decode cX8_borne 90 = .ok (.iload_n 2, 1) := by decide +kernel
theorem dX8_borne_91 : decode cX8_borne 91 = .ok (.if_icmp .ge 8, 3) := by decide +kernel
theorem dX8_borne_94 : decode cX8_borne 94 = .ok (.iload 4, 2) := by decide +kernel
theorem dX8_borne_96 : decode cX8_borne 96 = .ok (.goto 4, 3) := by decide +kernel
theorem dX8_borne_99 : decode cX8_borne 99 = .ok (.iload_n 2, 1) := by decide +kernel
theorem dX8_borne_100 : decode cX8_borne 100 = .ok (.istore_n 2, 1) := by decide +kernel
theorem dX8_borne_101 : decode cX8_borne 101 = .ok (.iinc 3 1, 3) := by decide +kernel
theorem dX8_borne_104 : decode cX8_borne 104 = .ok (.goto (-79), 3) := by decide +kernel
theorem dX8_borne_107 : decode cX8_borne 107 = .ok (.iload_n 2, 1) := by decide +kernel
theorem dX8_borne_108 : decode cX8_borne 108 = .ok (.ldc_w 258, 3) := by decide +kernel
theorem dX8_borne_111 : decode cX8_borne 111 = .ok (.if_icmp .ne 7, 3) := by decide +kernel
theorem dX8_borne_114 : decode cX8_borne 114 = .ok (.iconst (-1), 1) := by decide +kernel
theorem dX8_borne_115 : decode cX8_borne 115 = .ok (.goto 4, 3) := by decide +kernel
theorem dX8_borne_118 : decode cX8_borne 118 = .ok (.iload_n 2, 1) := by decide +kernel
theorem dX8_borne_119 : decode cX8_borne 119 = .ok (.ireturn, 1) := by decide +kernel
theorem dX8_fly_0 : decode cX8_fly 0 = .ok (.aload_n 0, 1) := by decide +kernel
theorem dX8_fly_1 : decode cX8_fly 1 = .ok (.iload_n 1, 1) := by decide +kernel
theorem dX8_fly_2 : decode cX8_fly 2 = .ok (.invokevirtual 274, 3) := by decide +kernel
theorem dX8_fly_5 : decode cX8_fly 5 = .ok (.ifCond .eq 17, 3) := by decide +kernel
theorem dX8_fly_8 : decode cX8_fly 8 = .ok (.iload_n 2, 1) := by decide +kernel
theorem dX8_fly_9 : decode cX8_fly 9 = .ok (.aload_n 0, 1) := by decide +kernel
theorem dX8_fly_10 : decode cX8_fly 10 = .ok (.getfield 271, 3) := by decide +kernel
theorem dX8_fly_13 : decode cX8_fly 13 = .ok (.if_icmp .lt 9, 3) := by decide +kernel
theorem dX8_fly_16 : decode cX8_fly 16 = .ok (.iload_n 2, 1) := by decide +kernel
theorem dX8_fly_17 : decode cX8_fly 17 = .ok (.ldc 176, 2) := by decide +kernel
theorem dX8_fly_19 : decode cX8_fly 19 = .ok (.if_icmp .le 5, 3) := by decide +kernel
theorem dX8_fly_22 : decode cX8_fly 22 = .ok (.iconst 0, 1) := by decide +kernel
theorem dX8_fly_23 : decode cX8_fly 23 = .ok (.ireturn, 1) := by decide +kernel
theorem dX8_fly_24 : decode cX8_fly 24 = .ok (.aload_n 0, 1) := by decide +kernel
theorem dX8_fly_25 : decode cX8_fly 25 = .ok (.getfield 113, 3) := by decide +kernel
theorem dX8_fly_28 : decode cX8_fly 28 = .ok (.iconst 0, 1) := by decide +kernel
theorem dX8_fly_29 : decode cX8_fly 29 = .ok (.iload_n 2, 1) := by decide +kernel
theorem dX8_fly_30 : decode cX8_fly 30 = .ok (.iastore, 1) := by decide +kernel
theorem dX8_fly_31 : decode cX8_fly 31 = .ok (.iconst 0, 1) := by decide +kernel
theorem dX8_fly_32 : decode cX8_fly 32 = .ok (.istore_n 3, 1) := by decide +kernel
theorem dX8_fly_33 : decode cX8_fly 33 = .ok (.iload_n 3, 1) := by decide +kernel
theorem dX8_fly_34 : decode cX8_fly 34 = .ok (.aload_n 0, 1) := by decide +kernel
theorem dX8_fly_35 : decode cX8_fly 35 = .ok (.getfield 265, 3) := by decide +kernel
theorem dX8_fly_38 : decode cX8_fly 38 = .ok (.if_icmp .ge 119, 3) := by decide +kernel
theorem dX8_fly_41 : decode cX8_fly 41 = .ok (.aload_n 0, 1) := by decide +kernel
theorem dX8_fly_42 : decode cX8_fly 42 = .ok (.getfield 113, 3) := by decide +kernel
theorem dX8_fly_45 : decode cX8_fly 45 = .ok (.iload_n 3, 1) := by decide +kernel
theorem dX8_fly_46 : decode cX8_fly 46 = .ok (.iaload, 1) := by decide +kernel
theorem dX8_fly_47 : decode cX8_fly 47 = .ok (.aload_n 0, 1) := by decide +kernel
theorem dX8_fly_48 : decode cX8_fly 48 = .ok (.iload_n 3, 1) := by decide +kernel
theorem dX8_fly_49 : decode cX8_fly 49 = .ok (.ifCond .ne 7, 3) := by decide +kernel
theorem dX8_fly_52 : decode cX8_fly 52 = .ok (.iconst (-1), 1) := by decide +kernel
theorem dX8_fly_53 : decode cX8_fly 53 = .ok (.goto 11, 3) := by decide +kernel
theorem dX8_fly_56 : decode cX8_fly 56 = .ok (.aload_n 0, 1) := by decide +kernel
theorem dX8_fly_57 : decode cX8_fly 57 = .ok (.getfield 110, 3) := by decide +kernel
theorem dX8_fly_60 : decode cX8_fly 60 = .ok (.iload_n 3, 1) := by decide +kernel
theorem dX8_fly_61 : decode cX8_fly 61 = .ok (.iconst 1, 1) := by decide +kernel
theorem dX8_fly_62 : decode cX8_fly 62 = .ok (.isub, 1) := by decide +kernel
theorem dX8_fly_63 : decode cX8_fly 63 = .ok (.iaload, 1) := by decide +kernel
theorem dX8_fly_64 : decode cX8_fly 64 = .ok (.aload_n 0, 1) := by decide +kernel
theorem dX8_fly_65 : decode cX8_fly 65 = .ok (.getfield 110, 3) := by decide +kernel
theorem dX8_fly_68 : decode cX8_fly 68 = .ok (.iload_n 3, 1) := by decide +kernel
theorem dX8_fly_69 : decode cX8_fly 69 = .ok (.iaload, 1) := by decide +kernel
theorem dX8_fly_70 : decode cX8_fly 70 = .ok (.invokevirtual 259, 3) := by decide +kernel
theorem dX8_fly_73 : decode cX8_fly 73 = .ok (.isub, 1) := by decide +kernel
theorem dX8_fly_74 : decode cX8_fly 74 = .ok (.istore 4, 2) := by decide +kernel
theorem dX8_fly_76 : decode cX8_fly 76 = .ok (.aload_n 0, 1) := by decide +kernel
theorem dX8_fly_77 : decode cX8_fly 77 = .ok (.aload_n 0, 1) := by decide +kernel
theorem dX8_fly_78 : decode cX8_fly 78 = .ok (.getfield 107, 3) := by decide +kernel
theorem dX8_fly_81 : decode cX8_fly 81 = .ok (.iload_n 3, 1) := by decide +kernel
theorem dX8_fly_82 : decode cX8_fly 82 = .ok (.iaload, 1) := by decide +kernel
theorem dX8_fly_83 : decode cX8_fly 83 = .ok (.aload_n 0, 1) := by decide +kernel
theorem dX8_fly_84 : decode cX8_fly 84 = .ok (.getfield 110, 3) := by decide +kernel
theorem dX8_fly_87 : decode cX8_fly 87 = .ok (.iload_n 3, 1) := by decide +kernel
theorem dX8_fly_88 : decode cX8_fly 88 = .ok (.iaload, 1) := by decide +kernel
theorem dX8_fly_89 : decode cX8_fly 89 = .ok (.iload_n 1, 1) := by decide +kernel
theorem dX8_fly_90 : decode cX8_fly 90 = .ok (.invokevirtual 252, 3) := by decide +kernel
theorem dX8_fly_93 : decode cX8_fly 93 = .ok (.istore 5, 2) := by decide +kernel
theorem dX8_fly_95 : decode cX8_fly 95 = .ok (.iload 4, 2) := by decide +kernel
theorem dX8_fly_97 : decode cX8_fly 97 = .ok (.aload_n 0, 1) := by decide +kernel
theorem dX8_fly_98 : decode cX8_fly 98 = .ok (.iload 5, 2) := by decide +kernel
theorem dX8_fly_100 : decode cX8_fly 100 = .ok (.aload_n 0, 1) := by decide +kernel
theorem dX8_fly_101 : decode cX8_fly 101 = .ok (.getfield 110, 3) := by decide +kernel
theorem dX8_fly_104 : decode cX8_fly 104 = .ok (.iload_n 3, 1) := by decide +kernel
theorem dX8_fly_105 : decode cX8_fly 105 = .ok (.iaload, 1) := by decide +kernel
theorem dX8_fly_106 : decode cX8_fly 106 = .ok (.iconst 0, 1) := by decide +kernel
theorem dX8_fly_107 : decode cX8_fly 107 = .ok (.invokevirtual 255, 3) := by decide +kernel
theorem dX8_fly_110 : decode cX8_fly 110 = .ok (.isub, 1) := by decide +kernel
theorem dX8_fly_111 : decode cX8_fly 111 = .ok (.istore 6, 2) := by decide +kernel
theorem dX8_fly_113 : decode cX8_fly 113 = .ok (.iload 6, 2) := by decide +kernel
theorem dX8_fly_115 : decode cX8_fly 115 = .ok (.aload_n 0, 1) := by decide +kernel
theorem dX8_fly_116 : decode cX8_fly 116 = .ok (.iload 5, 2) := by decide +kernel
theorem dX8_fly_118 : decode cX8_fly 118 = .ok (.aload_n 0, 1) := by decide +kernel
theorem dX8_fly_119 : decode cX8_fly 119 = .ok (.getfield 110, 3) := by decide +kernel
theorem dX8_fly_122 : decode cX8_fly 122 = .ok (.iload_n 3, 1) := by decide +kernel
theorem dX8_fly_123 : decode cX8_fly 123 = .ok (.iaload, 1) := by decide +kernel
theorem dX8_fly_124 : decode cX8_fly 124 = .ok (.iload 6, 2) := by decide +kernel
theorem dX8_fly_126 : decode cX8_fly 126 = .ok (.invokevirtual 255, 3) := by decide +kernel
theorem dX8_fly_129 : decode cX8_fly 129 = .ok (.iadd, 1) := by decide +kernel
theorem dX8_fly_130 : decode cX8_fly 130 = .ok (.iload 4, 2) := by decide +kernel
theorem dX8_fly_132 : decode cX8_fly 132 = .ok (.if_icmp .le 9, 3) := by decide +kernel
theorem dX8_fly_135 : decode cX8_fly 135 = .ok (.iinc 6 (-1), 3) := by decide +kernel
theorem dX8_fly_138 : decode cX8_fly 138 = .ok (.goto (-25), 3) := by decide +kernel
theorem dX8_fly_141 : decode cX8_fly 141 = .ok (.aload_n 0, 1) := by decide +kernel
theorem dX8_fly_142 : decode cX8_fly 142 = .ok (.getfield 113, 3) := by decide +kernel
theorem dX8_fly_145 : decode cX8_fly 145 = .ok (.iload_n 3, 1) := by decide +kernel
theorem dX8_fly_146 : decode cX8_fly 146 = .ok (.iconst 1, 1) := by decide +kernel
theorem dX8_fly_147 : decode cX8_fly 147 = .ok (.iadd, 1) := by decide +kernel
theorem dX8_fly_148 : decode cX8_fly 148 = .ok (.iload 6, 2) := by decide +kernel
theorem dX8_fly_150 : decode cX8_fly 150 = .ok (.iastore, 1) := by decide +kernel
theorem dX8_fly_151 : decode cX8_fly 151 = .ok (.iinc 3 1, 3) := by decide +kernel
theorem dX8_fly_154 : decode cX8_fly 154 = .ok (.goto (-121), 3) := by decide +kernel
theorem dX8_fly_157 : decode cX8_fly 157 = .ok (.iconst 1, 1) := by decide +kernel
theorem dX8_fly_158 : decode cX8_fly 158 = .ok (.ireturn, 1) := by decide +kernel
theorem dX8_at_0 : decode cX8_at 0 = .ok (.aload_n 0, 1) := by decide +kernel
theorem dX8_at_1 : decode cX8_at 1 = .ok (.iload_n 1, 1) := by decide +kernel
theorem dX8_at_2 : decode cX8_at 2 = .ok (.iload_n 2, 1) := by decide +kernel
theorem dX8_at_3 : decode cX8_at 3 = .ok (.invokevirtual 283, 3) := by decide +kernel
theorem dX8_at_6 : decode cX8_at 6 = .ok (.ifCond .eq 15, 3) := by decide +kernel
theorem dX8_at_9 : decode cX8_at 9 = .ok (.iload_n 3, 1) := by decide +kernel
theorem dX8_at_10 : decode cX8_at 10 = .ok (.ifCond .lt 11, 3) := by decide +kernel
theorem dX8_at_13 : decode cX8_at 13 = .ok (.iload_n 3, 1) := by decide +kernel
theorem dX8_at_14 : decode cX8_at 14 = .ok (.aload_n 0, 1) := by decide +kernel
theorem dX8_at_15 : decode cX8_at 15 = .ok (.getfield 265, 3) := by decide +kernel
theorem dX8_at_18 : decode cX8_at 18 = .ok (.if_icmp .le 7, 3) := by decide +kernel
theorem dX8_at_21 : decode cX8_at 21 = .ok (.iconst (-1), 1) := by decide +kernel
theorem dX8_at_22 : decode cX8_at 22 = .ok (.goto 9, 3) := by decide +kernel
theorem dX8_at_25 : decode cX8_at 25 = .ok (.aload_n 0, 1) := by decide +kernel
theorem dX8_at_26 : decode cX8_at 26 = .ok (.getfield 113, 3) := by decide +kernel
theorem dX8_at_29 : decode cX8_at 29 = .ok (.iload_n 3, 1) := by decide +kernel
theorem dX8_at_30 : decode cX8_at 30 = .ok (.iaload, 1) := by decide +kernel
theorem dX8_at_31 : decode cX8_at 31 = .ok (.ireturn, 1) := by decide +kernel
theorem dX8_home_0 : decode cX8_home 0 = .ok (.aload_n 0, 1) := by decide +kernel
theorem dX8_home_1 : decode cX8_home 1 = .ok (.iload_n 1, 1) := by decide +kernel
theorem dX8_home_2 : decode cX8_home 2 = .ok (.invokevirtual 274, 3) := by decide +kernel
theorem dX8_home_5 : decode cX8_home 5 = .ok (.ifCond .eq 15, 3) := by decide +kernel
theorem dX8_home_8 : decode cX8_home 8 = .ok (.iload_n 2, 1) := by decide +kernel
theorem dX8_home_9 : decode cX8_home 9 = .ok (.ifCond .lt 11, 3) := by decide +kernel
theorem dX8_home_12 : decode cX8_home 12 = .ok (.iload_n 2, 1) := by decide +kernel
theorem dX8_home_13 : decode cX8_home 13 = .ok (.aload_n 0, 1) := by decide +kernel
theorem dX8_home_14 : decode cX8_home 14 = .ok (.getfield 265, 3) := by decide +kernel
theorem dX8_home_17 : decode cX8_home 17 = .ok (.if_icmp .le 5, 3) := by decide +kernel
theorem dX8_home_20 : decode cX8_home 20 = .ok (.iconst (-1), 1) := by decide +kernel
theorem dX8_home_21 : decode cX8_home 21 = .ok (.ireturn, 1) := by decide +kernel
theorem dX8_home_22 : decode cX8_home 22 = .ok (.aload_n 0, 1) := by decide +kernel
theorem dX8_home_23 : decode cX8_home 23 = .ok (.iload_n 1, 1) := by decide +kernel
theorem dX8_home_24 : decode cX8_home 24 = .ok (.aload_n 0, 1) := by decide +kernel
theorem dX8_home_25 : decode cX8_home 25 = .ok (.getfield 233, 3) := by decide +kernel
theorem dX8_home_28 : decode cX8_home 28 = .ok (.invokevirtual 268, 3) := by decide +kernel
theorem dX8_home_31 : decode cX8_home 31 = .ok (.aload_n 0, 1) := by decide +kernel
theorem dX8_home_32 : decode cX8_home 32 = .ok (.iload_n 2, 1) := by decide +kernel
theorem dX8_home_33 : decode cX8_home 33 = .ok (.invokevirtual 287, 3) := by decide +kernel
theorem dX8_home_36 : decode cX8_home 36 = .ok (.istore_n 3, 1) := by decide +kernel
theorem dX8_home_37 : decode cX8_home 37 = .ok (.iload_n 3, 1) := by decide +kernel
theorem dX8_home_38 : decode cX8_home 38 = .ok (.ldc_w 258, 3) := by decide +kernel
theorem dX8_home_41 : decode cX8_home 41 = .ok (.if_icmp .ne 7, 3) := by decide +kernel
theorem dX8_home_44 : decode cX8_home 44 = .ok (.iconst (-1), 1) := by decide +kernel
theorem dX8_home_45 : decode cX8_home 45 = .ok (.goto 4, 3) := by decide +kernel
theorem dX8_home_48 : decode cX8_home 48 = .ok (.iload_n 3, 1) := by decide +kernel
theorem dX8_home_49 : decode cX8_home 49 = .ok (.ireturn, 1) := by decide +kernel
theorem dX8_lastReturn_0 : decode cX8_lastReturn 0 = .ok (.aload_n 0, 1) := by decide +kernel
theorem dX8_lastReturn_1 : decode cX8_lastReturn 1 = .ok (.iload_n 1, 1) := by decide +kernel
theorem dX8_lastReturn_2 : decode cX8_lastReturn 2 = .ok (.iload_n 2, 1) := by decide +kernel
theorem dX8_lastReturn_3 : decode cX8_lastReturn 3 = .ok (.invokevirtual 283, 3) := by decide +kernel
theorem dX8_lastReturn_6 : decode cX8_lastReturn 6 = .ok (.ifCond .ne 5, 3) := by decide +kernel
theorem dX8_lastReturn_9 : decode cX8_lastReturn 9 = .ok (.iconst (-1), 1) := by decide +kernel
theorem dX8_lastReturn_10 : decode cX8_lastReturn 10 = .ok (.ireturn, 1) := by decide +kernel
theorem dX8_lastReturn_11 : decode cX8_lastReturn 11 = .ok (.aload_n 0, 1) := by decide +kernel
theorem dX8_lastReturn_12 : decode cX8_lastReturn 12 = .ok (.iload_n 1, 1) := by decide +kernel
theorem dX8_lastReturn_13 : decode cX8_lastReturn 13 = .ok (.aload_n 0, 1) := by decide +kernel
theorem dX8_lastReturn_14 : decode cX8_lastReturn 14 = .ok (.getfield 233, 3) := by decide +kernel
theorem dX8_lastReturn_17 : decode cX8_lastReturn 17 = .ok (.invokevirtual 268, 3) := by decide +kernel
theorem dX8_lastReturn_20 : decode cX8_lastReturn 20 = .ok (.iconst 0, 1) := by decide +kernel
theorem dX8_lastReturn_21 : decode cX8_lastReturn 21 = .ok (.istore_n 3, 1) := by decide +kernel
theorem dX8_lastReturn_22 : decode cX8_lastReturn 22 = .ok (.iload_n 3, 1) := by decide +kernel
theorem dX8_lastReturn_23 : decode cX8_lastReturn 23 = .ok (.aload_n 0, 1) := by decide +kernel
theorem dX8_lastReturn_24 : decode cX8_lastReturn 24 = .ok (.getfield 265, 3) := by decide +kernel
theorem dX8_lastReturn_27 : decode cX8_lastReturn 27 = .ok (.if_icmp .ge 40, 3) := by decide +kernel
theorem dX8_lastReturn_30 : decode cX8_lastReturn 30 = .ok (.aload_n 0, 1) := by decide +kernel
theorem dX8_lastReturn_31 : decode cX8_lastReturn 31 = .ok (.iload_n 3, 1) := by decide +kernel
theorem dX8_lastReturn_32 : decode cX8_lastReturn 32 = .ok (.iconst 1, 1) := by decide +kernel
theorem dX8_lastReturn_33 : decode cX8_lastReturn 33 = .ok (.iadd, 1) := by decide +kernel
theorem dX8_lastReturn_34 : decode cX8_lastReturn 34 = .ok (.invokevirtual 287, 3) := by decide +kernel
theorem dX8_lastReturn_37 : decode cX8_lastReturn 37 = .ok (.ldc_w 258, 3) := by decide +kernel
theorem dX8_lastReturn_40 : decode cX8_lastReturn 40 = .ok (.if_icmp .eq 27, 3) := by decide +kernel
theorem dX8_lastReturn_43 : decode cX8_lastReturn 43 = .ok (.aload_n 0, 1) := by decide +kernel
theorem dX8_lastReturn_44 : decode cX8_lastReturn 44 = .ok (.getfield 113, 3) := by decide +kernel
theorem dX8_lastReturn_47 : decode cX8_lastReturn 47 = .ok (.iload_n 3, 1) := by decide +kernel
theorem dX8_lastReturn_48 : decode cX8_lastReturn 48 = .ok (.iconst 1, 1) := by decide +kernel
theorem dX8_lastReturn_49 : decode cX8_lastReturn 49 = .ok (.iadd, 1) := by decide +kernel
theorem dX8_lastReturn_50 : decode cX8_lastReturn 50 = .ok (.iaload, 1) := by decide +kernel
theorem dX8_lastReturn_51 : decode cX8_lastReturn 51 = .ok (.aload_n 0, 1) := by decide +kernel
theorem dX8_lastReturn_52 : decode cX8_lastReturn 52 = .ok (.iload_n 3, 1) := by decide +kernel
theorem dX8_lastReturn_53 : decode cX8_lastReturn 53 = .ok (.iconst 1, 1) := by decide +kernel
theorem dX8_lastReturn_54 : decode cX8_lastReturn 54 = .ok (.iadd, 1) := by decide +kernel
theorem dX8_lastReturn_55 : decode cX8_lastReturn 55 = .ok (.invokevirtual 287, 3) := by decide +kernel
theorem dX8_lastReturn_58 : decode cX8_lastReturn 58 = .ok (.if_icmp .lt 9, 3) := by decide +kernel
theorem dX8_lastReturn_61 : decode cX8_lastReturn 61 = .ok (.iinc 3 1, 3) := by decide +kernel
theorem dX8_lastReturn_64 : decode cX8_lastReturn 64 = .ok (.goto (-42), 3) := by decide +kernel
theorem dX8_lastReturn_67 : decode cX8_lastReturn 67 = .ok (.iload_n 3, 1) := by decide +kernel
theorem dX8_lastReturn_68 : decode cX8_lastReturn 68 = .ok (.ireturn, 1) := by decide +kernel
theorem dX8_carry_0 : decode cX8_carry 0 = .ok (.iload_n 2, 1) := by decide +kernel
theorem dX8_carry_1 : decode cX8_carry 1 = .ok (.ifCond .lt 44, 3) := by decide +kernel
theorem dX8_carry_4 : decode cX8_carry 4 = .ok (.iload_n 2, 1) := by decide +kernel
theorem dX8_carry_5 : decode cX8_carry 5 = .ok (.sipush 1000, 3) := by decide +kernel
theorem dX8_carry_8 : decode cX8_carry 8 = .ok (.if_icmp .gt 37, 3) := by decide +kernel
theorem dX8_carry_11 : decode cX8_carry 11 = .ok (.iload_n 3, 1) := by decide +kernel
theorem dX8_carry_12 : decode cX8_carry 12 = .ok (.ifCond .lt 33, 3) := by decide +kernel
theorem dX8_carry_15 : decode cX8_carry 15 = .ok (.iload_n 3, 1) := by decide +kernel
theorem dX8_carry_16 : decode cX8_carry 16 = .ok (.sipush 1000, 3) := by decide +kernel
theorem dX8_carry_19 : decode cX8_carry 19 = .ok (.if_icmp .gt 26, 3) := by decide +kernel
theorem dX8_carry_22 : decode cX8_carry 22 = .ok (.aload_n 0, 1) := by decide +kernel
theorem dX8_carry_23 : decode cX8_carry 23 = .ok (.iload_n 1, 1) := by decide +kernel
theorem dX8_carry_24 : decode cX8_carry 24 = .ok (.invokevirtual 274, 3) := by decide +kernel
theorem dX8_carry_27 : decode cX8_carry 27 = .ok (.ifCond .eq 18, 3) := by decide +kernel
theorem dX8_carry_30 : decode cX8_carry 30 = .ok (.aload_n 0, 1) := by decide +kernel
theorem dX8_carry_31 : decode cX8_carry 31 = .ok (.aload_n 0, 1) := by decide +kernel
theorem dX8_carry_32 : decode cX8_carry 32 = .ok (.getfield 271, 3) := by decide +kernel
theorem dX8_carry_35 : decode cX8_carry 35 = .ok (.aload_n 0, 1) := by decide +kernel
theorem dX8_carry_36 : decode cX8_carry 36 = .ok (.getfield 245, 3) := by decide +kernel
theorem dX8_carry_39 : decode cX8_carry 39 = .ok (.invokevirtual 280, 3) := by decide +kernel
theorem dX8_carry_42 : decode cX8_carry 42 = .ok (.ifCond .le 5, 3) := by decide +kernel
theorem dX8_carry_45 : decode cX8_carry 45 = .ok (.iconst (-1), 1) := by decide +kernel
theorem dX8_carry_46 : decode cX8_carry 46 = .ok (.ireturn, 1) := by decide +kernel
theorem dX8_carry_47 : decode cX8_carry 47 = .ok (.iconst 0, 1) := by decide +kernel
theorem dX8_carry_48 : decode cX8_carry 48 = .ok (.istore 4, 2) := by decide +kernel
theorem dX8_carry_50 : decode cX8_carry 50 = .ok (.lconst 0, 1) := by decide +kernel
theorem dX8_carry_51 : decode cX8_carry 51 = .ok (.lstore 5, 2) := by decide +kernel
theorem dX8_carry_53 : decode cX8_carry 53 = .ok (.iconst 0, 1) := by decide +kernel
theorem dX8_carry_54 : decode cX8_carry 54 = .ok (.istore 7, 2) := by decide +kernel
theorem dX8_carry_56 : decode cX8_carry 56 = .ok (.iload 7, 2) := by decide +kernel
theorem dX8_carry_58 : decode cX8_carry 58 = .ok (.sipush 500, 3) := by decide +kernel
theorem dX8_carry_61 : decode cX8_carry 61 = .ok (.if_icmp .gt 79, 3) := by decide +kernel
theorem dX8_carry_64 : decode cX8_carry 64 = .ok (.aload_n 0, 1) := by decide +kernel
theorem dX8_carry_65 : decode cX8_carry 65 = .ok (.iload_n 1, 1) := by decide +kernel
theorem dX8_carry_66 : decode cX8_carry 66 = .ok (.iconst 0, 1) := by decide +kernel
theorem dX8_carry_67 : decode cX8_carry 67 = .ok (.aload_n 0, 1) := by decide +kernel
theorem dX8_carry_68 : decode cX8_carry 68 = .ok (.getfield 245, 3) := by decide +kernel
theorem dX8_carry_71 : decode cX8_carry 71 = .ok (.iload 7, 2) := by decide +kernel
theorem dX8_carry_73 : decode cX8_carry 73 = .ok (.iadd, 1) := by decide +kernel
theorem dX8_carry_74 : decode cX8_carry 74 = .ok (.invokevirtual 277, 3) := by decide +kernel
theorem dX8_carry_77 : decode cX8_carry 77 = .ok (.istore 8, 2) := by decide +kernel
theorem dX8_carry_79 : decode cX8_carry 79 = .ok (.iload_n 2, 1) := by decide +kernel
theorem dX8_carry_80 : decode cX8_carry 80 = .ok (.i2l, 1) := by decide +kernel
theorem dX8_carry_81 : decode cX8_carry 81 = .ok (.iload 8, 2) := by decide +kernel
theorem dX8_carry_83 : decode cX8_carry 83 = .ok (.i2l, 1) := by decide +kernel
theorem dX8_carry_84 : decode cX8_carry 84 = .ok (.lmul, 1) := by decide +kernel
theorem dX8_carry_85 : decode cX8_carry 85 = .ok (.iload_n 3, 1) := by decide +kernel
theorem dX8_carry_86 : decode cX8_carry 86 = .ok (.i2l, 1) := by decide +kernel
theorem dX8_carry_87 : decode cX8_carry 87 = .ok (.iload 7, 2) := by decide +kernel
theorem dX8_carry_89 : decode cX8_carry 89 = .ok (.i2l, 1) := by decide +kernel
theorem dX8_carry_90 : decode cX8_carry 90 = .ok (.lmul, 1) := by decide +kernel
theorem dX8_carry_91 : decode cX8_carry 91 = .ok (.lsub, 1) := by decide +kernel
theorem dX8_carry_92 : decode cX8_carry 92 = .ok (.lstore 9, 2) := by decide +kernel
theorem dX8_carry_94 : decode cX8_carry 94 = .ok (.aload_n 0, 1) := by decide +kernel
theorem dX8_carry_95 : decode cX8_carry 95 = .ok (.iload 8, 2) := by decide +kernel
theorem dX8_carry_97 : decode cX8_carry 97 = .ok (.aload_n 0, 1) := by decide +kernel
theorem dX8_carry_98 : decode cX8_carry 98 = .ok (.getfield 245, 3) := by decide +kernel
theorem dX8_carry_101 : decode cX8_carry 101 = .ok (.iload 7, 2) := by decide +kernel
theorem dX8_carry_103 : decode cX8_carry 103 = .ok (.iadd, 1) := by decide +kernel
theorem dX8_carry_104 : decode cX8_carry 104 = .ok (.invokevirtual 280, 3) := by decide +kernel
theorem dX8_carry_107 : decode cX8_carry 107 = .ok (.ifCond .gt 27, 3) := by decide +kernel
theorem dX8_carry_110 : decode cX8_carry 110 = .ok (.iload 7, 2) := by decide +kernel
theorem dX8_carry_112 : decode cX8_carry 112 = .ok (.ifCond .le 14, 3) := by decide +kernel
theorem dX8_carry_115 : decode cX8_carry 115 = .ok (.lload 9, 2) := by decide +kernel
theorem dX8_carry_117 : decode cX8_carry 117 = .ok (.lload 5, 2) := by decide +kernel
theorem dX8_carry_119 : decode cX8_carry 119 = .ok (.lcmp, 1) := by decide +kernel
theorem dX8_carry_120 : decode cX8_carry 120 = .ok (.ifCond .lt 6, 3) := by decide +kernel
theorem dX8_carry_123 : decode cX8_carry 123 = .ok (.goto 11, 3) := by decide +kernel
theorem dX8_carry_126 : decode cX8_carry 126 = .ok (.lload 9, 2) := by decide +kernel
theorem dX8_carry_128 : decode cX8_carry 128 = .ok (.lstore 5, 2) := by decide +kernel
theorem dX8_carry_130 : decode cX8_carry 130 = .ok (.iload 7, 2) := by decide +kernel
theorem dX8_carry_132 : decode cX8_carry 132 = .ok (.istore 4, 2) := by decide +kernel
theorem dX8_carry_134 : decode cX8_carry 134 = .ok (.iinc 7 1, 3) := by decide +kernel
theorem dX8_carry_137 : decode cX8_carry 137 = .ok (.goto (-81), 3) := by decide +kernel
theorem dX8_carry_140 : decode cX8_carry 140 = .ok (.iload 4, 2) := by decide +kernel
theorem dX8_carry_142 : decode cX8_carry 142 = .ok (.ireturn, 1) := by decide +kernel
theorem dX8_about_0 : decode cX8_about 0 = .ok (.iload_n 1, 1) := by decide +kernel
theorem dX8_about_1 : decode cX8_about 1 = .ok (.tableswitch 69 0 3 #[31, 41, 51, 64], 31) := by decide +kernel
theorem dX8_about_32 : decode cX8_about 32 = .ok (.aload_n 0, 1) := by decide +kernel
theorem dX8_about_33 : decode cX8_about 33 = .ok (.getfield 65, 3) := by decide +kernel
theorem dX8_about_36 : decode cX8_about 36 = .ok (.aload_n 0, 1) := by decide +kernel
theorem dX8_about_37 : decode cX8_about 37 = .ok (.getfield 124, 3) := by decide +kernel
theorem dX8_about_40 : decode cX8_about 40 = .ok (.iaload, 1) := by decide +kernel
theorem dX8_about_41 : decode cX8_about 41 = .ok (.ireturn, 1) := by decide +kernel
theorem dX8_about_42 : decode cX8_about 42 = .ok (.aload_n 0, 1) := by decide +kernel
theorem dX8_about_43 : decode cX8_about 43 = .ok (.getfield 61, 3) := by decide +kernel
theorem dX8_about_46 : decode cX8_about 46 = .ok (.aload_n 0, 1) := by decide +kernel
theorem dX8_about_47 : decode cX8_about 47 = .ok (.getfield 124, 3) := by decide +kernel
theorem dX8_about_50 : decode cX8_about 50 = .ok (.iaload, 1) := by decide +kernel
theorem dX8_about_51 : decode cX8_about 51 = .ok (.ireturn, 1) := by decide +kernel
theorem dX8_about_52 : decode cX8_about 52 = .ok (.aload_n 0, 1) := by decide +kernel
theorem dX8_about_53 : decode cX8_about 53 = .ok (.getfield 140, 3) := by decide +kernel
theorem dX8_about_56 : decode cX8_about 56 = .ok (.ifCond .eq 7, 3) := by decide +kernel
theorem dX8_about_59 : decode cX8_about 59 = .ok (.iconst 1, 1) := by decide +kernel
theorem dX8_about_60 : decode cX8_about 60 = .ok (.goto 4, 3) := by decide +kernel
theorem dX8_about_63 : decode cX8_about 63 = .ok (.iconst 0, 1) := by decide +kernel
theorem dX8_about_64 : decode cX8_about 64 = .ok (.ireturn, 1) := by decide +kernel
theorem dX8_about_65 : decode cX8_about 65 = .ok (.aload_n 0, 1) := by decide +kernel
theorem dX8_about_66 : decode cX8_about 66 = .ok (.getfield 121, 3) := by decide +kernel
theorem dX8_about_69 : decode cX8_about 69 = .ok (.ireturn, 1) := by decide +kernel
theorem dX8_about_70 : decode cX8_about 70 = .ok (.iconst (-1), 1) := by decide +kernel
theorem dX8_about_71 : decode cX8_about 71 = .ok (.ireturn, 1) := by decide +kernel
theorem dX8_feed_0 : decode cX8_feed 0 = .ok (.aload_n 0, 1) := by decide +kernel
theorem dX8_feed_1 : decode cX8_feed 1 = .ok (.getfield 121, 3) := by decide +kernel
theorem dX8_feed_4 : decode cX8_feed 4 = .ok (.bipush 20, 2) := by decide +kernel
theorem dX8_feed_6 : decode cX8_feed 6 = .ok (.iadd, 1) := by decide +kernel
theorem dX8_feed_7 : decode cX8_feed 7 = .ok (.sipush 1000, 3) := by decide +kernel
theorem dX8_feed_10 : decode cX8_feed 10 = .ok (.if_icmp .le 5, 3) := by decide +kernel
theorem dX8_feed_13 : decode cX8_feed 13 = .ok (.iconst (-1), 1) := by decide +kernel
theorem dX8_feed_14 : decode cX8_feed 14 = .ok (.ireturn, 1) := by decide +kernel
theorem dX8_feed_15 : decode cX8_feed 15 = .ok (.iconst 0, 1) := by decide +kernel
theorem dX8_feed_16 : decode cX8_feed 16 = .ok (.istore 6, 2) := by decide +kernel
theorem dX8_feed_18 : decode cX8_feed 18 = .ok (.iload 6, 2) := by decide +kernel
theorem dX8_feed_20 : decode cX8_feed 20 = .ok (.bipush 20, 2) := by decide +kernel
theorem dX8_feed_22 : decode cX8_feed 22 = .ok (.if_icmp .ge 83, 3) := by decide +kernel
theorem dX8_feed_25 : decode cX8_feed 25 = .ok (.iload 6, 2) := by decide +kernel
theorem dX8_feed_27 : decode cX8_feed 27 = .ok (.iconst 4, 1) := by decide +kernel
theorem dX8_feed_28 : decode cX8_feed 28 = .ok (.if_icmp .ge 7, 3) := by decide +kernel
theorem dX8_feed_31 : decode cX8_feed 31 = .ok (.iload_n 1, 1) := by decide +kernel
theorem dX8_feed_32 : decode cX8_feed 32 = .ok (.goto 39, 3) := by decide +kernel
theorem dX8_feed_35 : decode cX8_feed 35 = .ok (.iload 6, 2) := by decide +kernel
theorem dX8_feed_37 : decode cX8_feed 37 = .ok (.bipush 8, 2) := by decide +kernel
theorem dX8_feed_39 : decode cX8_feed 39 = .ok (.if_icmp .ge 7, 3) := by decide +kernel
theorem dX8_feed_42 : decode cX8_feed 42 = .ok (.iload_n 2, 1) := by decide +kernel
theorem dX8_feed_43 : decode cX8_feed 43 = .ok (.goto 28, 3) := by decide +kernel
theorem dX8_feed_46 : decode cX8_feed 46 = .ok (.iload 6, 2) := by decide +kernel
theorem dX8_feed_48 : decode cX8_feed 48 = .ok (.bipush 12, 2) := by decide +kernel
theorem dX8_feed_50 : decode cX8_feed 50 = .ok (.if_icmp .ge 7, 3) := by decide +kernel
theorem dX8_feed_53 : decode cX8_feed 53 = .ok (.iload_n 3, 1) := by decide +kernel
theorem dX8_feed_54 : decode cX8_feed 54 = .ok (.goto 17, 3) := by decide +kernel
theorem dX8_feed_57 : decode cX8_feed 57 = .ok (.iload 6, 2) := by decide +kernel
theorem dX8_feed_59 : decode cX8_feed 59 = .ok (.bipush 16, 2) := by decide +kernel
theorem dX8_feed_61 : decode cX8_feed 61 = .ok (.if_icmp .ge 8, 3) := by decide +kernel
theorem dX8_feed_64 : decode cX8_feed 64 = .ok (.iload 4, 2) := by decide +kernel
theorem dX8_feed_66 : decode cX8_feed 66 = .ok (.goto 5, 3) := by decide +kernel
theorem dX8_feed_69 : decode cX8_feed 69 = .ok (.iload 5, 2) := by decide +kernel
theorem dX8_feed_71 : decode cX8_feed 71 = .ok (.istore 7, 2) := by decide +kernel
theorem dX8_feed_73 : decode cX8_feed 73 = .ok (.aload_n 0, 1) := by decide +kernel
theorem dX8_feed_74 : decode cX8_feed 74 = .ok (.getfield 58, 3) := by decide +kernel
theorem dX8_feed_77 : decode cX8_feed 77 = .ok (.aload_n 0, 1) := by decide +kernel
theorem dX8_feed_78 : decode cX8_feed 78 = .ok (.getfield 121, 3) := by decide +kernel
theorem dX8_feed_81 : decode cX8_feed 81 = .ok (.iload 6, 2) := by decide +kernel
theorem dX8_feed_83 : decode cX8_feed 83 = .ok (.iadd, 1) := by decide +kernel
theorem dX8_feed_84 : decode cX8_feed 84 = .ok (.iload 7, 2) := by decide +kernel
theorem dX8_feed_86 : decode cX8_feed 86 = .ok (.bipush 24, 2) := by decide +kernel
theorem dX8_feed_88 : decode cX8_feed 88 = .ok (.bipush 8, 2) := by decide +kernel
theorem dX8_feed_90 : decode cX8_feed 90 = .ok (.iload 6, 2) := by decide +kernel
theorem dX8_feed_92 : decode cX8_feed 92 = .ok (.iconst 3, 1) := by decide +kernel
theorem dX8_feed_93 : decode cX8_feed 93 = .ok (.iand, 1) := by decide +kernel
theorem dX8_feed_94 : decode cX8_feed 94 = .ok (.imul, 1) := by decide +kernel
theorem dX8_feed_95 : decode cX8_feed 95 = .ok (.isub, 1) := by decide +kernel
theorem dX8_feed_96 : decode cX8_feed 96 = .ok (.ishr, 1) := by decide +kernel
theorem dX8_feed_97 : decode cX8_feed 97 = .ok (.i2b, 1) := by decide +kernel
theorem dX8_feed_98 : decode cX8_feed 98 = .ok (.bastore, 1) := by decide +kernel
theorem dX8_feed_99 : decode cX8_feed 99 = .ok (.iinc 6 1, 3) := by decide +kernel
theorem dX8_feed_102 : decode cX8_feed 102 = .ok (.goto (-84), 3) := by decide +kernel
theorem dX8_feed_105 : decode cX8_feed 105 = .ok (.aload_n 0, 1) := by decide +kernel
theorem dX8_feed_106 : decode cX8_feed 106 = .ok (.dup, 1) := by decide +kernel
theorem dX8_feed_107 : decode cX8_feed 107 = .ok (.getfield 121, 3) := by decide +kernel
theorem dX8_feed_110 : decode cX8_feed 110 = .ok (.bipush 20, 2) := by decide +kernel
theorem dX8_feed_112 : decode cX8_feed 112 = .ok (.iadd, 1) := by decide +kernel
theorem dX8_feed_113 : decode cX8_feed 113 = .ok (.putfield 121, 3) := by decide +kernel
theorem dX8_feed_116 : decode cX8_feed 116 = .ok (.aload_n 0, 1) := by decide +kernel
theorem dX8_feed_117 : decode cX8_feed 117 = .ok (.getfield 121, 3) := by decide +kernel
theorem dX8_feed_120 : decode cX8_feed 120 = .ok (.ireturn, 1) := by decide +kernel
theorem dX8_end_0 : decode cX8_end 0 = .ok (.iload_n 1, 1) := by decide +kernel
theorem dX8_end_1 : decode cX8_end 1 = .ok (.ifCond .lt 11, 3) := by decide +kernel
theorem dX8_end_4 : decode cX8_end 4 = .ok (.iload_n 1, 1) := by decide +kernel
theorem dX8_end_5 : decode cX8_end 5 = .ok (.aload_n 0, 1) := by decide +kernel
theorem dX8_end_6 : decode cX8_end 6 = .ok (.getfield 121, 3) := by decide +kernel
theorem dX8_end_9 : decode cX8_end 9 = .ok (.if_icmp .le 5, 3) := by decide +kernel
theorem dX8_end_12 : decode cX8_end 12 = .ok (.iconst (-1), 1) := by decide +kernel
theorem dX8_end_13 : decode cX8_end 13 = .ok (.ireturn, 1) := by decide +kernel
theorem dX8_end_14 : decode cX8_end 14 = .ok (.aload_n 0, 1) := by decide +kernel
theorem dX8_end_15 : decode cX8_end 15 = .ok (.iload_n 1, 1) := by decide +kernel
theorem dX8_end_16 : decode cX8_end 16 = .ok (.putfield 121, 3) := by decide +kernel
theorem dX8_end_19 : decode cX8_end 19 = .ok (.iload_n 1, 1) := by decide +kernel
theorem dX8_end_20 : decode cX8_end 20 = .ok (.ireturn, 1) := by decide +kernel
theorem dJ7_fill_53178_0 : decode cJ7_fill_53178 0 = .ok (.iconst 0, 1) := by decide +kernel
theorem dJ7_fill_53178_1 : decode cJ7_fill_53178 1 = .ok (.istore_n 2, 1) := by decide +kernel
theorem dJ7_fill_53178_2 : decode cJ7_fill_53178 2 = .ok (.aload_n 0, 1) := by decide +kernel
theorem dJ7_fill_53178_3 : decode cJ7_fill_53178 3 = .ok (.arraylength, 1) := by decide +kernel
theorem dJ7_fill_53178_4 : decode cJ7_fill_53178 4 = .ok (.istore_n 3, 1) := by decide +kernel
theorem dJ7_fill_53178_5 : decode cJ7_fill_53178 5 = .ok (.iload_n 2, 1) := by decide +kernel
theorem dJ7_fill_53178_6 : decode cJ7_fill_53178 6 = .ok (.iload_n 3, 1) := by decide +kernel
theorem dJ7_fill_53178_7 : decode cJ7_fill_53178 7 = .ok (.if_icmp .ge 13, 3) := by decide +kernel
theorem dJ7_fill_53178_10 : decode cJ7_fill_53178 10 = .ok (.aload_n 0, 1) := by decide +kernel
theorem dJ7_fill_53178_11 : decode cJ7_fill_53178 11 = .ok (.iload_n 2, 1) := by decide +kernel
theorem dJ7_fill_53178_12 : decode cJ7_fill_53178 12 = .ok (.iload_n 1, 1) := by decide +kernel
theorem dJ7_fill_53178_13 : decode cJ7_fill_53178 13 = .ok (.iastore, 1) := by decide +kernel
theorem dJ7_fill_53178_14 : decode cJ7_fill_53178 14 = .ok (.iinc 2 1, 3) := by decide +kernel
theorem dJ7_fill_53178_17 : decode cJ7_fill_53178 17 = .ok (.goto (-12), 3) := by decide +kernel
theorem dJ7_fill_53178_20 : decode cJ7_fill_53178 20 = .ok (.return_, 1) := by decide +kernel
