theorem dX3_readTape_16 : decode cX3_readTape 16 = .ok (.putfield 27, 3) := by decide +kernel
theorem dX3_readTape_19 : decode cX3_readTape 19 = .ok (.aload_n 0, 1) := by decide +kernel
theorem dX3_readTape_20 : decode cX3_readTape 20 = .ok (.iconst (-1), 1) := by decide +kernel
theorem dX3_readTape_21 : decode cX3_readTape 21 = .ok (.putfield 31, 3) := by decide +kernel
theorem dX3_readTape_24 : decode cX3_readTape 24 = .ok (.iconst 0, 1) := by decide +kernel
theorem dX3_readTape_25 : decode cX3_readTape 25 = .ok (.istore_n 1, 1) := by decide +kernel
theorem dX3_readTape_26 : decode cX3_readTape 26 = .ok (.iload_n 1, 1) := by decide +kernel
theorem dX3_readTape_27 : decode cX3_readTape 27 = .ok (.bipush 60, 2) := by decide +kernel
theorem dX3_readTape_29 : decode cX3_readTape 29 = .ok (.if_icmp .gt 47, 3) := by decide +kernel
theorem dX3_readTape_32 : decode cX3_readTape 32 = .ok (.aload_n 0, 1) := by decide +kernel
theorem dX3_readTape_33 : decode cX3_readTape 33 = .ok (.getfield 27, 3) := by decide +kernel
theorem dX3_readTape_36 : decode cX3_readTape 36 = .ok (.ifCond .ne 40, 3) := by decide +kernel
theorem dX3_readTape_39 : decode cX3_readTape 39 = .ok (.aload_n 0, 1) := by decide +kernel
theorem dX3_readTape_40 : decode cX3_readTape 40 = .ok (.getfield 14, 3) := by decide +kernel
theorem dX3_readTape_43 : decode cX3_readTape 43 = .ok (.invokevirtual 40, 3) := by decide +kernel
theorem dX3_readTape_46 : decode cX3_readTape 46 = .ok (.aload_n 0, 1) := by decide +kernel
theorem dX3_readTape_47 : decode cX3_readTape 47 = .ok (.iconst 0, 1) := by decide +kernel
theorem dX3_readTape_48 : decode cX3_readTape 48 = .ok (.putfield 43, 3) := by decide +kernel
theorem dX3_readTape_51 : decode cX3_readTape 51 = .ok (.aload_n 0, 1) := by decide +kernel
theorem dX3_readTape_52 : decode cX3_readTape 52 = .ok (.getfield 14, 3) := by decide +kernel
theorem dX3_readTape_55 : decode cX3_readTape 55 = .ok (.getfield 46, 3) := by decide +kernel
theorem dX3_readTape_58 : decode cX3_readTape 58 = .ok (.iconst 0, 1) := by decide +kernel
theorem dX3_readTape_59 : decode cX3_readTape 59 = .ok (.iaload, 1) := by decide +kernel
theorem dX3_readTape_60 : decode cX3_readTape 60 = .ok (.ifCond .ne 6, 3) := by decide +kernel
theorem dX3_readTape_63 : decode cX3_readTape 63 = .ok (.goto 13, 3) := by decide +kernel
theorem dX3_readTape_66 : decode cX3_readTape 66 = .ok (.aload_n 0, 1) := by decide +kernel
theorem dX3_readTape_67 : decode cX3_readTape 67 = .ok (.invokevirtual 50, 3) := by decide +kernel
theorem dX3_readTape_70 : decode cX3_readTape 70 = .ok (.iinc 1 1, 3) := by decide +kernel
theorem dX3_readTape_73 : decode cX3_readTape 73 = .ok (.goto (-47), 3) := by decide +kernel
theorem dX3_readTape_76 : decode cX3_readTape 76 = .ok (.aload_n 0, 1) := by decide +kernel
theorem dX3_readTape_77 : decode cX3_readTape 77 = .ok (.getfield 27, 3) := by decide +kernel
theorem dX3_readTape_80 : decode cX3_readTape 80 = .ok (.ifCond .eq 5, 3) := by decide +kernel
theorem dX3_readTape_83 : decode cX3_readTape 83 = .ok (.iconst 0, 1) := by decide +kernel
theorem dX3_readTape_84 : decode cX3_readTape 84 = .ok (.ireturn, 1) := by decide +kernel
theorem dX3_readTape_85 : decode cX3_readTape 85 = .ok (.aload_n 0, 1) := by decide +kernel
theorem dX3_readTape_86 : decode cX3_readTape 86 = .ok (.getfield 23, 3) := by decide +kernel
theorem dX3_readTape_89 : decode cX3_readTape 89 = .ok (.invokevirtual 53, 3) := by decide +kernel
theorem dX3_readTape_92 : decode cX3_readTape 92 = .ok (.iconst 1, 1) := by decide +kernel
theorem dX3_readTape_93 : decode cX3_readTape 93 = .ok (.ireturn, 1) := by decide +kernel
theorem dX3_readLine_0 : decode cX3_readLine 0 = .ok (.aload_n 0, 1) := by decide +kernel
theorem dX3_readLine_1 : decode cX3_readLine 1 = .ok (.getfield 23, 3) := by decide +kernel
theorem dX3_readLine_4 : decode cX3_readLine 4 = .ok (.getfield 56, 3) := by decide +kernel
theorem dX3_readLine_7 : decode cX3_readLine 7 = .ok (.bipush 60, 2) := by decide +kernel
theorem dX3_readLine_9 : decode cX3_readLine 9 = .ok (.if_icmp .lt 8, 3) := by decide +kernel
theorem dX3_readLine_12 : decode cX3_readLine 12 = .ok (.aload_n 0, 1) := by decide +kernel
theorem dX3_readLine_13 : decode cX3_readLine 13 = .ok (.invokevirtual 59, 3) := by decide +kernel
theorem dX3_readLine_16 : decode cX3_readLine 16 = .ok (.return_, 1) := by decide +kernel
theorem dX3_readLine_17 : decode cX3_readLine 17 = .ok (.aload_n 0, 1) := by decide +kernel
theorem dX3_readLine_18 : decode cX3_readLine 18 = .ok (.getfield 23, 3) := by decide +kernel
theorem dX3_readLine_21 : decode cX3_readLine 21 = .ok (.dup, 1) := by decide +kernel
theorem dX3_readLine_22 : decode cX3_readLine 22 = .ok (.getfield 56, 3) := by decide +kernel
theorem dX3_readLine_25 : decode cX3_readLine 25 = .ok (.iconst 1, 1) := by decide +kernel
theorem dX3_readLine_26 : decode cX3_readLine 26 = .ok (.iadd, 1) := by decide +kernel
theorem dX3_readLine_27 : decode cX3_readLine 27 = .ok (.putfield 56, 3) := by decide +kernel
theorem dX3_readLine_30 : decode cX3_readLine 30 = .ok (.aload_n 0, 1) := by decide +kernel
theorem dX3_readLine_31 : decode cX3_readLine 31 = .ok (.getfield 14, 3) := by decide +kernel
theorem dX3_readLine_34 : decode cX3_readLine 34 = .ok (.iconst 0, 1) := by decide +kernel
theorem dX3_readLine_35 : decode cX3_readLine 35 = .ok (.ldc 62, 2) := by decide +kernel
theorem dX3_readLine_37 : decode cX3_readLine 37 = .ok (.invokevirtual 64, 3) := by decide +kernel
theorem dX3_readLine_40 : decode cX3_readLine 40 = .ok (.ifCond .eq 10, 3) := by decide +kernel
theorem dX3_readLine_43 : decode cX3_readLine 43 = .ok (.aload_n 0, 1) := by decide +kernel
theorem dX3_readLine_44 : decode cX3_readLine 44 = .ok (.invokevirtual 68, 3) := by decide +kernel
theorem dX3_readLine_47 : decode cX3_readLine 47 = .ok (.goto 139, 3) := by decide +kernel
theorem dX3_readLine_50 : decode cX3_readLine 50 = .ok (.aload_n 0, 1) := by decide +kernel
theorem dX3_readLine_51 : decode cX3_readLine 51 = .ok (.getfield 14, 3) := by decide +kernel
theorem dX3_readLine_54 : decode cX3_readLine 54 = .ok (.iconst 0, 1) := by decide +kernel
theorem dX3_readLine_55 : decode cX3_readLine 55 = .ok (.ldc 71, 2) := by decide +kernel
theorem dX3_readLine_57 : decode cX3_readLine 57 = .ok (.invokevirtual 64, 3) := by decide +kernel
theorem dX3_readLine_60 : decode cX3_readLine 60 = .ok (.ifCond .eq 29, 3) := by decide +kernel
theorem dX3_readLine_63 : decode cX3_readLine 63 = .ok (.aload_n 0, 1) := by decide +kernel
theorem dX3_readLine_64 : decode cX3_readLine 64 = .ok (.aload_n 0, 1) := by decide +kernel
theorem dX3_readLine_65 : decode cX3_readLine 65 = .ok (.getfield 23, 3) := by decide +kernel
theorem dX3_readLine_68 : decode cX3_readLine 68 = .ok (.getfield 73, 3) := by decide +kernel
theorem dX3_readLine_71 : decode cX3_readLine 71 = .ok (.aload_n 0, 1) := by decide +kernel
theorem dX3_readLine_72 : decode cX3_readLine 72 = .ok (.iconst 0, 1) := by decide +kernel
theorem dX3_readLine_73 : decode cX3_readLine 73 = .ok (.iconst 5, 1) := by decide +kernel
theorem dX3_readLine_74 : decode cX3_readLine 74 = .ok (.invokevirtual 75, 3) := by decide +kernel
theorem dX3_readLine_77 : decode cX3_readLine 77 = .ok (.bipush 100, 2) := by decide +kernel
theorem dX3_readLine_79 : decode cX3_readLine 79 = .ok (.sipush 999, 3) := by decide +kernel
theorem dX3_readLine_82 : decode cX3_readLine 82 = .ok (.invokevirtual 79, 3) := by decide +kernel
theorem dX3_readLine_85 : decode cX3_readLine 85 = .ok (.pop, 1) := by decide +kernel
theorem dX3_readLine_86 : decode cX3_readLine 86 = .ok (.goto 100, 3) := by decide +kernel
theorem dX3_readLine_89 : decode cX3_readLine 89 = .ok (.aload_n 0, 1) := by decide +kernel
theorem dX3_readLine_90 : decode cX3_readLine 90 = .ok (.getfield 14, 3) := by decide +kernel
theorem dX3_readLine_93 : decode cX3_readLine 93 = .ok (.iconst 0, 1) := by decide +kernel
theorem dX3_readLine_94 : decode cX3_readLine 94 = .ok (.ldc 83, 2) := by decide +kernel
theorem dX3_readLine_96 : decode cX3_readLine 96 = .ok (.invokevirtual 64, 3) := by decide +kernel
theorem dX3_readLine_99 : decode cX3_readLine 99 = .ok (.ifCond .eq 10, 3) := by decide +kernel
theorem dX3_readLine_102 : decode cX3_readLine 102 = .ok (.aload_n 0, 1) := by decide +kernel
theorem dX3_readLine_103 : decode cX3_readLine 103 = .ok (.invokevirtual 85, 3) := by decide +kernel
theorem dX3_readLine_106 : decode cX3_readLine 106 = .ok (.goto 80, 3) := by decide +kernel
theorem dX3_readLine_109 : decode cX3_readLine 109 = .ok (.aload_n 0, 1) := by decide +kernel
theorem dX3_readLine_110 : decode cX3_readLine 110 = .ok (.getfield 14, 3) := by decide +kernel
theorem dX3_readLine_113 : decode cX3_readLine 113 = .ok (.iconst 0, 1) := by decide +kernel
theorem dX3_readLine_114 : decode cX3_readLine 114 = .ok (.ldc 88, 2) := by decide +kernel
theorem dX3_readLine_116 : decode cX3_readLine 116 = .ok (.invokevirtual 64, 3) := by decide +kernel
theorem dX3_readLine_119 : decode cX3_readLine 119 = .ok (.ifCond .eq 10, 3) := by decide +kernel
theorem dX3_readLine_122 : decode cX3_readLine 122 = .ok (.aload_n 0, 1) := by decide +kernel
theorem dX3_readLine_123 : decode cX3_readLine 123 = .ok (.invokevirtual 90, 3) := by decide +kernel
theorem dX3_readLine_126 : decode cX3_readLine 126 = .ok (.goto 60, 3) := by decide +kernel
theorem dX3_readLine_129 : decode cX3_readLine 129 = .ok (.aload_n 0, 1) := by decide +kernel
theorem dX3_readLine_130 : decode cX3_readLine 130 = .ok (.getfield 14, 3) := by decide +kernel
theorem dX3_readLine_133 : decode cX3_readLine 133 = .ok (.iconst 0, 1) := by decide +kernel
theorem dX3_readLine_134 : decode cX3_readLine 134 = .ok (.ldc 93, 2) := by decide +kernel
theorem dX3_readLine_136 : decode cX3_readLine 136 = .ok (.invokevirtual 64, 3) := by decide +kernel
theorem dX3_readLine_139 : decode cX3_readLine 139 = .ok (.ifCond .eq 28, 3) := by decide +kernel
theorem dX3_readLine_142 : decode cX3_readLine 142 = .ok (.aload_n 0, 1) := by decide +kernel
theorem dX3_readLine_143 : decode cX3_readLine 143 = .ok (.aload_n 0, 1) := by decide +kernel
theorem dX3_readLine_144 : decode cX3_readLine 144 = .ok (.getfield 23, 3) := by decide +kernel
theorem dX3_readLine_147 : decode cX3_readLine 147 = .ok (.getfield 95, 3) := by decide +kernel
theorem dX3_readLine_150 : decode cX3_readLine 150 = .ok (.aload_n 0, 1) := by decide +kernel
theorem dX3_readLine_151 : decode cX3_readLine 151 = .ok (.iconst 0, 1) := by decide +kernel
theorem dX3_readLine_152 : decode cX3_readLine 152 = .ok (.iconst 5, 1) := by decide +kernel
theorem dX3_readLine_153 : decode cX3_readLine 153 = .ok (.invokevirtual 75, 3) := by decide +kernel
theorem dX3_readLine_156 : decode cX3_readLine 156 = .ok (.iconst 0, 1) := by decide +kernel
theorem dX3_readLine_157 : decode cX3_readLine 157 = .ok (.sipush 999, 3) := by decide +kernel
theorem dX3_readLine_160 : decode cX3_readLine 160 = .ok (.invokevirtual 79, 3) := by decide +kernel
theorem dX3_readLine_163 : decode cX3_readLine 163 = .ok (.pop, 1) := by decide +kernel
theorem dX3_readLine_164 : decode cX3_readLine 164 = .ok (.goto 22, 3) := by decide +kernel
theorem dX3_readLine_167 : decode cX3_readLine 167 = .ok (.aload_n 0, 1) := by decide +kernel
theorem dX3_readLine_168 : decode cX3_readLine 168 = .ok (.aload_n 0, 1) := by decide +kernel
theorem dX3_readLine_169 : decode cX3_readLine 169 = .ok (.getfield 23, 3) := by decide +kernel
theorem dX3_readLine_172 : decode cX3_readLine 172 = .ok (.getfield 97, 3) := by decide +kernel
theorem dX3_readLine_175 : decode cX3_readLine 175 = .ok (.aload_n 0, 1) := by decide +kernel
theorem dX3_readLine_176 : decode cX3_readLine 176 = .ok (.invokevirtual 100, 3) := by decide +kernel
theorem dX3_readLine_179 : decode cX3_readLine 179 = .ok (.iconst 0, 1) := by decide +kernel
theorem dX3_readLine_180 : decode cX3_readLine 180 = .ok (.ldc 104, 2) := by decide +kernel
theorem dX3_readLine_182 : decode cX3_readLine 182 = .ok (.invokevirtual 79, 3) := by decide +kernel
theorem dX3_readLine_185 : decode cX3_readLine 185 = .ok (.pop, 1) := by decide +kernel
theorem dX3_readLine_186 : decode cX3_readLine 186 = .ok (.aload_n 0, 1) := by decide +kernel
theorem dX3_readLine_187 : decode cX3_readLine 187 = .ok (.invokevirtual 105, 3) := by decide +kernel
theorem dX3_readLine_190 : decode cX3_readLine 190 = .ok (.return_, 1) := by decide +kernel
theorem dX3_readLeg_0 : decode cX3_readLeg 0 = .ok (.aload_n 0, 1) := by decide +kernel
theorem dX3_readLeg_1 : decode cX3_readLeg 1 = .ok (.getfield 23, 3) := by decide +kernel
theorem dX3_readLeg_4 : decode cX3_readLeg 4 = .ok (.getfield 108, 3) := by decide +kernel
theorem dX3_readLeg_7 : decode cX3_readLeg 7 = .ok (.istore_n 1, 1) := by decide +kernel
theorem dX3_readLeg_8 : decode cX3_readLeg 8 = .ok (.iload_n 1, 1) := by decide +kernel
theorem dX3_readLeg_9 : decode cX3_readLeg 9 = .ok (.bipush 16, 2) := by decide +kernel
theorem dX3_readLeg_11 : decode cX3_readLeg 11 = .ok (.if_icmp .lt 8, 3) := by decide +kernel
theorem dX3_readLeg_14 : decode cX3_readLeg 14 = .ok (.aload_n 0, 1) := by decide +kernel
theorem dX3_readLeg_15 : decode cX3_readLeg 15 = .ok (.invokevirtual 59, 3) := by decide +kernel
theorem dX3_readLeg_18 : decode cX3_readLeg 18 = .ok (.return_, 1) := by decide +kernel
theorem dX3_readLeg_19 : decode cX3_readLeg 19 = .ok (.aload_n 0, 1) := by decide +kernel
theorem dX3_readLeg_20 : decode cX3_readLeg 20 = .ok (.getfield 23, 3) := by decide +kernel
theorem dX3_readLeg_23 : decode cX3_readLeg 23 = .ok (.dup, 1) := by decide +kernel
theorem dX3_readLeg_24 : decode cX3_readLeg 24 = .ok (.getfield 108, 3) := by decide +kernel
theorem dX3_readLeg_27 : decode cX3_readLeg 27 = .ok (.iconst 1, 1) := by decide +kernel
theorem dX3_readLeg_28 : decode cX3_readLeg 28 = .ok (.iadd, 1) := by decide +kernel
theorem dX3_readLeg_29 : decode cX3_readLeg 29 = .ok (.putfield 108, 3) := by decide +kernel
theorem dX3_readLeg_32 : decode cX3_readLeg 32 = .ok (.aload_n 0, 1) := by decide +kernel
theorem dX3_readLeg_33 : decode cX3_readLeg 33 = .ok (.getfield 23, 3) := by decide +kernel
theorem dX3_readLeg_36 : decode cX3_readLeg 36 = .ok (.getfield 111, 3) := by decide +kernel
theorem dX3_readLeg_39 : decode cX3_readLeg 39 = .ok (.iload_n 1, 1) := by decide +kernel
theorem dX3_readLeg_40 : decode cX3_readLeg 40 = .ok (.aload_n 0, 1) := by decide +kernel
theorem dX3_readLeg_41 : decode cX3_readLeg 41 = .ok (.iconst 0, 1) := by decide +kernel
theorem dX3_readLeg_42 : decode cX3_readLeg 42 = .ok (.bipush 9, 2) := by decide +kernel
theorem dX3_readLeg_44 : decode cX3_readLeg 44 = .ok (.invokevirtual 75, 3) := by decide +kernel
theorem dX3_readLeg_47 : decode cX3_readLeg 47 = .ok (.iastore, 1) := by decide +kernel
theorem dX3_readLeg_48 : decode cX3_readLeg 48 = .ok (.aload_n 0, 1) := by decide +kernel
theorem dX3_readLeg_49 : decode cX3_readLeg 49 = .ok (.getfield 23, 3) := by decide +kernel
theorem dX3_readLeg_52 : decode cX3_readLeg 52 = .ok (.getfield 114, 3) := by decide +kernel
theorem dX3_readLeg_55 : decode cX3_readLeg 55 = .ok (.iload_n 1, 1) := by decide +kernel
theorem dX3_readLeg_56 : decode cX3_readLeg 56 = .ok (.aload_n 0, 1) := by decide +kernel
theorem dX3_readLeg_57 : decode cX3_readLeg 57 = .ok (.iconst 0, 1) := by decide +kernel
theorem dX3_readLeg_58 : decode cX3_readLeg 58 = .ok (.bipush 9, 2) := by decide +kernel
theorem dX3_readLeg_60 : decode cX3_readLeg 60 = .ok (.invokevirtual 75, 3) := by decide +kernel
theorem dX3_readLeg_63 : decode cX3_readLeg 63 = .ok (.iastore, 1) := by decide +kernel
theorem dX3_readLeg_64 : decode cX3_readLeg 64 = .ok (.aload_n 0, 1) := by decide +kernel
theorem dX3_readLeg_65 : decode cX3_readLeg 65 = .ok (.getfield 23, 3) := by decide +kernel
theorem dX3_readLeg_68 : decode cX3_readLeg 68 = .ok (.getfield 114, 3) := by decide +kernel
theorem dX3_readLeg_71 : decode cX3_readLeg 71 = .ok (.iload_n 1, 1) := by decide +kernel
theorem dX3_readLeg_72 : decode cX3_readLeg 72 = .ok (.iaload, 1) := by decide +kernel
theorem dX3_readLeg_73 : decode cX3_readLeg 73 = .ok (.aload_n 0, 1) := by decide +kernel
theorem dX3_readLeg_74 : decode cX3_readLeg 74 = .ok (.getfield 23, 3) := by decide +kernel
theorem dX3_readLeg_77 : decode cX3_readLeg 77 = .ok (.getfield 111, 3) := by decide +kernel
theorem dX3_readLeg_80 : decode cX3_readLeg 80 = .ok (.iload_n 1, 1) := by decide +kernel
theorem dX3_readLeg_81 : decode cX3_readLeg 81 = .ok (.iaload, 1) := by decide +kernel
theorem dX3_readLeg_82 : decode cX3_readLeg 82 = .ok (.if_icmp .ne 8, 3) := by decide +kernel
theorem dX3_readLeg_85 : decode cX3_readLeg 85 = .ok (.aload_n 0, 1) := by decide +kernel
theorem dX3_readLeg_86 : decode cX3_readLeg 86 = .ok (.iconst 3, 1) := by decide +kernel
theorem dX3_readLeg_87 : decode cX3_readLeg 87 = .ok (.invokevirtual 117, 3) := by decide +kernel
theorem dX3_readLeg_90 : decode cX3_readLeg 90 = .ok (.aload_n 0, 1) := by decide +kernel
theorem dX3_readLeg_91 : decode cX3_readLeg 91 = .ok (.getfield 23, 3) := by decide +kernel
theorem dX3_readLeg_94 : decode cX3_readLeg 94 = .ok (.getfield 121, 3) := by decide +kernel
theorem dX3_readLeg_97 : decode cX3_readLeg 97 = .ok (.iload_n 1, 1) := by decide +kernel
theorem dX3_readLeg_98 : decode cX3_readLeg 98 = .ok (.aload_n 0, 1) := by decide +kernel
theorem dX3_readLeg_99 : decode cX3_readLeg 99 = .ok (.iconst 1, 1) := by decide +kernel
theorem dX3_readLeg_100 : decode cX3_readLeg 100 = .ok (.sipush 999, 3) := by decide +kernel
theorem dX3_readLeg_103 : decode cX3_readLeg 103 = .ok (.invokevirtual 75, 3) := by decide +kernel
theorem dX3_readLeg_106 : decode cX3_readLeg 106 = .ok (.iastore, 1) := by decide +kernel
theorem dX3_readLeg_107 : decode cX3_readLeg 107 = .ok (.aload_n 0, 1) := by decide +kernel
theorem dX3_readLeg_108 : decode cX3_readLeg 108 = .ok (.getfield 23, 3) := by decide +kernel
theorem dX3_readLeg_111 : decode cX3_readLeg 111 = .ok (.getfield 124, 3) := by decide +kernel
theorem dX3_readLeg_114 : decode cX3_readLeg 114 = .ok (.iload_n 1, 1) := by decide +kernel
theorem dX3_readLeg_115 : decode cX3_readLeg 115 = .ok (.iconst 0, 1) := by decide +kernel
theorem dX3_readLeg_116 : decode cX3_readLeg 116 = .ok (.iastore, 1) := by decide +kernel
theorem dX3_readLeg_117 : decode cX3_readLeg 117 = .ok (.aload_n 0, 1) := by decide +kernel
theorem dX3_readLeg_118 : decode cX3_readLeg 118 = .ok (.getfield 23, 3) := by decide +kernel
theorem dX3_readLeg_121 : decode cX3_readLeg 121 = .ok (.getfield 127, 3) := by decide +kernel
theorem dX3_readLeg_124 : decode cX3_readLeg 124 = .ok (.iload_n 1, 1) := by decide +kernel
theorem dX3_readLeg_125 : decode cX3_readLeg 125 = .ok (.iconst 5, 1) := by decide +kernel
theorem dX3_readLeg_126 : decode cX3_readLeg 126 = .ok (.iastore, 1) := by decide +kernel
theorem dX3_readLeg_127 : decode cX3_readLeg 127 = .ok (.aload_n 0, 1) := by decide +kernel
theorem dX3_readLeg_128 : decode cX3_readLeg 128 = .ok (.getfield 14, 3) := by decide +kernel
theorem dX3_readLeg_131 : decode cX3_readLeg 131 = .ok (.aload_n 0, 1) := by decide +kernel
theorem dX3_readLeg_132 : decode cX3_readLeg 132 = .ok (.getfield 43, 3) := by decide +kernel
theorem dX3_readLeg_135 : decode cX3_readLeg 135 = .ok (.iconst 1, 1) := by decide +kernel
theorem dX3_readLeg_136 : decode cX3_readLeg 136 = .ok (.iadd, 1) := by decide +kernel
theorem dX3_readLeg_137 : decode cX3_readLeg 137 = .ok (.ldc 130, 2) := by decide +kernel
theorem dX3_readLeg_139 : decode cX3_readLeg 139 = .ok (.invokevirtual 64, 3) := by decide +kernel
theorem dX3_readLeg_142 : decode cX3_readLeg 142 = .ok (.ifCond .eq 45, 3) := by decide +kernel
theorem dX3_readLeg_145 : decode cX3_readLeg 145 = .ok (.aload_n 0, 1) := by decide +kernel
theorem dX3_readLeg_146 : decode cX3_readLeg 146 = .ok (.invokevirtual 132, 3) := by decide +kernel
theorem dX3_readLeg_149 : decode cX3_readLeg 149 = .ok (.aload_n 0, 1) := by decide +kernel
theorem dX3_readLeg_150 : decode cX3_readLeg 150 = .ok (.getfield 23, 3) := by decide +kernel
theorem dX3_readLeg_153 : decode cX3_readLeg 153 = .ok (.getfield 124, 3) := by decide +kernel
theorem dX3_readLeg_156 : decode cX3_readLeg 156 = .ok (.iload_n 1, 1) := by decide +kernel
theorem dX3_readLeg_157 : decode cX3_readLeg 157 = .ok (.aload_n 0, 1) := by decide +kernel
theorem dX3_readLeg_158 : decode cX3_readLeg 158 = .ok (.iconst 0, 1) := by decide +kernel
theorem dX3_readLeg_159 : decode cX3_readLeg 159 = .ok (.iconst 5, 1) := by decide +kernel
theorem dX3_readLeg_160 : decode cX3_readLeg 160 = .ok (.invokevirtual 75, 3) := by decide +kernel
theorem dX3_readLeg_163 : decode cX3_readLeg 163 = .ok (.iastore, 1) := by decide +kernel
theorem dX3_readLeg_164 : decode cX3_readLeg 164 = .ok (.aload_n 0, 1) := by decide +kernel
theorem dX3_readLeg_165 : decode cX3_readLeg 165 = .ok (.getfield 23, 3) := by decide +kernel
theorem dX3_readLeg_168 : decode cX3_readLeg 168 = .ok (.getfield 127, 3) := by decide +kernel
theorem dX3_readLeg_171 : decode cX3_readLeg 171 = .ok (.iload_n 1, 1) := by decide +kernel
theorem dX3_readLeg_172 : decode cX3_readLeg 172 = .ok (.aload_n 0, 1) := by decide +kernel
theorem dX3_readLeg_173 : decode cX3_readLeg 173 = .ok (.aload_n 0, 1) := by decide +kernel
theorem dX3_readLeg_174 : decode cX3_readLeg 174 = .ok (.getfield 23, 3) := by decide +kernel
theorem dX3_readLeg_177 : decode cX3_readLeg 177 = .ok (.getfield 124, 3) := by decide +kernel
theorem dX3_readLeg_180 : decode cX3_readLeg 180 = .ok (.iload_n 1, 1) := by decide +kernel
theorem dX3_readLeg_181 : decode cX3_readLeg 181 = .ok (.iaload, 1) := by decide +kernel
theorem dX3_readLeg_182 : decode cX3_readLeg 182 = .ok (.iconst 5, 1) := by decide +kernel
theorem dX3_readLeg_183 : decode cX3_readLeg 183 = .ok (.invokevirtual 75, 3) := by decide +kernel
theorem dX3_readLeg_186 : decode cX3_readLeg 186 = .ok (.iastore, 1) := by decide +kernel
theorem dX3_readLeg_187 : decode cX3_readLeg 187 = .ok (.aload_n 0, 1) := by decide +kernel
theorem dX3_readLeg_188 : decode cX3_readLeg 188 = .ok (.getfield 23, 3) := by decide +kernel
theorem dX3_readLeg_191 : decode cX3_readLeg 191 = .ok (.getfield 135, 3) := by decide +kernel
theorem dX3_readLeg_194 : decode cX3_readLeg 194 = .ok (.iload_n 1, 1) := by decide +kernel
theorem dX3_readLeg_195 : decode cX3_readLeg 195 = .ok (.iconst 0, 1) := by decide +kernel
theorem dX3_readLeg_196 : decode cX3_readLeg 196 = .ok (.iastore, 1) := by decide +kernel
theorem dX3_readLeg_197 : decode cX3_readLeg 197 = .ok (.aload_n 0, 1) := by decide +kernel
theorem dX3_readLeg_198 : decode cX3_readLeg 198 = .ok (.getfield 23, 3) := by decide +kernel
theorem dX3_readLeg_201 : decode cX3_readLeg 201 = .ok (.getfield 138, 3) := by decide +kernel
theorem dX3_readLeg_204 : decode cX3_readLeg 204 = .ok (.iload_n 1, 1) := by decide +kernel
theorem dX3_readLeg_205 : decode cX3_readLeg 205 = .ok (.sipush 999, 3) := by decide +kernel
theorem dX3_readLeg_208 : decode cX3_readLeg 208 = .ok (.iastore, 1) := by decide +kernel
theorem dX3_readLeg_209 : decode cX3_readLeg 209 = .ok (.aload_n 0, 1) := by decide +kernel
theorem dX3_readLeg_210 : decode cX3_readLeg 210 = .ok (.getfield 14, 3) := by decide +kernel
theorem dX3_readLeg_213 : decode cX3_readLeg 213 = .ok (.aload_n 0, 1) := by decide +kernel
theorem dX3_readLeg_214 : decode cX3_readLeg 214 = .ok (.getfield 43, 3) := by decide +kernel
theorem dX3_readLeg_217 : decode cX3_readLeg 217 = .ok (.iconst 1, 1) := by decide +kernel
theorem dX3_readLeg_218 : decode cX3_readLeg 218 = .ok (.iadd, 1) := by decide +kernel
theorem dX3_readLeg_219 : decode cX3_readLeg 219 = .ok (.ldc 141, 2) := by decide +kernel
theorem dX3_readLeg_221 : decode cX3_readLeg 221 = .ok (.invokevirtual 64, 3) := by decide +kernel
theorem dX3_readLeg_224 : decode cX3_readLeg 224 = .ok (.ifCond .eq 49, 3) := by decide +kernel
theorem dX3_readLeg_227 : decode cX3_readLeg 227 = .ok (.aload_n 0, 1) := by decide +kernel
theorem dX3_readLeg_228 : decode cX3_readLeg 228 = .ok (.invokevirtual 132, 3) := by decide +kernel
theorem dX3_readLeg_231 : decode cX3_readLeg 231 = .ok (.aload_n 0, 1) := by decide +kernel
theorem dX3_readLeg_232 : decode cX3_readLeg 232 = .ok (.getfield 23, 3) := by decide +kernel
theorem dX3_readLeg_235 : decode cX3_readLeg 235 = .ok (.getfield 135, 3) := by decide +kernel
theorem dX3_readLeg_238 : decode cX3_readLeg 238 = .ok (.iload_n 1, 1) := by decide +kernel
theorem dX3_readLeg_239 : decode cX3_readLeg 239 = .ok (.aload_n 0, 1) := by decide +kernel
theorem dX3_readLeg_240 : decode cX3_readLeg 240 = .ok (.iconst 0, 1) := by decide +kernel
theorem dX3_readLeg_241 : decode cX3_readLeg 241 = .ok (.sipush 999, 3) := by decide +kernel
theorem dX3_readLeg_244 : decode cX3_readLeg 244 = .ok (.invokevirtual 75, 3) := by decide +kernel
theorem dX3_readLeg_247 : decode cX3_readLeg 247 = .ok (.iastore, 1) := by decide +kernel
theorem dX3_readLeg_248 : decode cX3_readLeg 248 = .ok (.aload_n 0, 1) := by decide +kernel
theorem dX3_readLeg_249 : decode cX3_readLeg 249 = .ok (.getfield 23, 3) := by decide +kernel
theorem dX3_readLeg_252 : decode cX3_readLeg 252 = .ok (.getfield 138, 3) := by decide +kernel
theorem dX3_readLeg_255 : decode cX3_readLeg 255 = .ok (.iload_n 1, 1) := by decide +kernel
theorem dX3_readLeg_256 : decode cX3_readLeg 256 = .ok (.aload_n 0, 1) := by decide +kernel
theorem dX3_readLeg_257 : decode cX3_readLeg 257 = .ok (.aload_n 0, 1) := by decide +kernel
theorem dX3_readLeg_258 : decode cX3_readLeg 258 = .ok (.getfield 23, 3) := by decide +kernel
theorem dX3_readLeg_261 : decode cX3_readLeg 261 = .ok (.getfield 135, 3) := by decide +kernel
theorem dX3_readLeg_264 : decode cX3_readLeg 264 = .ok (.iload_n 1, 1) := by decide +kernel
theorem dX3_readLeg_265 : decode cX3_readLeg 265 = .ok (.iaload, 1) := by decide +kernel
theorem dX3_readLeg_266 : decode cX3_readLeg 266 = .ok (.sipush 999, 3) := by decide +kernel
theorem dX3_readLeg_269 : decode cX3_readLeg 269 = .ok (.invokevirtual 75, 3) := by decide +kernel
theorem dX3_readLeg_272 : decode cX3_readLeg 272 = .ok (.iastore, 1) := by decide +kernel
theorem dX3_readLeg_273 : decode cX3_readLeg 273 = .ok (.return_, 1) := by decide +kernel
theorem dX3_readWind_0 : decode cX3_readWind 0 = .ok (.aload_n 0, 1) := by decide +kernel
theorem dX3_readWind_1 : decode cX3_readWind 1 = .ok (.iconst 0, 1) := by decide +kernel
theorem dX3_readWind_2 : decode cX3_readWind 2 = .ok (.iconst 2, 1) := by decide +kernel
theorem dX3_readWind_3 : decode cX3_readWind 3 = .ok (.invokevirtual 75, 3) := by decide +kernel
theorem dX3_readWind_6 : decode cX3_readWind 6 = .ok (.istore_n 1, 1) := by decide +kernel
theorem dX3_readWind_7 : decode cX3_readWind 7 = .ok (.aload_n 0, 1) := by decide +kernel
theorem dX3_readWind_8 : decode cX3_readWind 8 = .ok (.iconst 0, 1) := by decide +kernel
theorem dX3_readWind_9 : decode cX3_readWind 9 = .ok (.iconst 5, 1) := by decide +kernel
theorem dX3_readWind_10 : decode cX3_readWind 10 = .ok (.invokevirtual 75, 3) := by decide +kernel
theorem dX3_readWind_13 : decode cX3_readWind 13 = .ok (.istore_n 2, 1) := by decide +kernel
theorem dX3_readWind_14 : decode cX3_readWind 14 = .ok (.aload_n 0, 1) := by decide +kernel
theorem dX3_readWind_15 : decode cX3_readWind 15 = .ok (.iconst 0, 1) := by decide +kernel
theorem dX3_readWind_16 : decode cX3_readWind 16 = .ok (.aload_n 0, 1) := by decide +kernel
theorem dX3_readWind_17 : decode cX3_readWind 17 = .ok (.getfield 23, 3) := by decide +kernel
theorem dX3_readWind_20 : decode cX3_readWind 20 = .ok (.getfield 108, 3) := by decide +kernel
theorem dX3_readWind_23 : decode cX3_readWind 23 = .ok (.iconst 1, 1) := by decide +kernel
theorem dX3_readWind_24 : decode cX3_readWind 24 = .ok (.isub, 1) := by decide +kernel
theorem dX3_readWind_25 : decode cX3_readWind 25 = .ok (.invokevirtual 75, 3) := by decide +kernel
theorem dX3_readWind_28 : decode cX3_readWind 28 = .ok (.istore_n 3, 1) := by decide +kernel
theorem dX3_readWind_29 : decode cX3_readWind 29 = .ok (.aload_n 0, 1) := by decide +kernel
theorem dX3_readWind_30 : decode cX3_readWind 30 = .ok (.aload_n 0, 1) := by decide +kernel
theorem dX3_readWind_31 : decode cX3_readWind 31 = .ok (.getfield 23, 3) := by decide +kernel
theorem dX3_readWind_34 : decode cX3_readWind 34 = .ok (.getfield 142, 3) := by decide +kernel
theorem dX3_readWind_37 : decode cX3_readWind 37 = .ok (.iload_n 1, 1) := by decide +kernel
theorem dX3_readWind_38 : decode cX3_readWind 38 = .ok (.iload_n 2, 1) := by decide +kernel
theorem dX3_readWind_39 : decode cX3_readWind 39 = .ok (.iload_n 3, 1) := by decide +kernel
theorem dX3_readWind_40 : decode cX3_readWind 40 = .ok (.invokestatic 144, 3) := by decide +kernel
theorem dX3_readWind_43 : decode cX3_readWind 43 = .ok (.sipush (-400), 3) := by decide +kernel
theorem dX3_readWind_46 : decode cX3_readWind 46 = .ok (.sipush 400, 3) := by decide +kernel
theorem dX3_readWind_49 : decode cX3_readWind 49 = .ok (.invokevirtual 79, 3) := by decide +kernel
theorem dX3_readWind_52 : decode cX3_readWind 52 = .ok (.pop, 1) := by decide +kernel
theorem dX3_readWind_53 : decode cX3_readWind 53 = .ok (.return_, 1) := by decide +kernel
theorem dX3_readBurn_0 : decode cX3_readBurn 0 = .ok (.aload_n 0, 1) := by decide +kernel
theorem dX3_readBurn_1 : decode cX3_readBurn 1 = .ok (.iconst 0, 1) := by decide +kernel
theorem dX3_readBurn_2 : decode cX3_readBurn 2 = .ok (.iconst 5, 1) := by decide +kernel
theorem dX3_readBurn_3 : decode cX3_readBurn 3 = .ok (.invokevirtual 75, 3) := by decide +kernel
theorem dX3_readBurn_6 : decode cX3_readBurn 6 = .ok (.istore_n 1, 1) := by decide +kernel
theorem dX3_readBurn_7 : decode cX3_readBurn 7 = .ok (.aload_n 0, 1) := by decide +kernel
theorem dX3_readBurn_8 : decode cX3_readBurn 8 = .ok (.iconst 0, 1) := by decide +kernel
theorem dX3_readBurn_9 : decode cX3_readBurn 9 = .ok (.iconst 4, 1) := by decide +kernel
theorem dX3_readBurn_10 : decode cX3_readBurn 10 = .ok (.invokevirtual 75, 3) := by decide +kernel
theorem dX3_readBurn_13 : decode cX3_readBurn 13 = .ok (.istore_n 2, 1) := by decide +kernel
theorem dX3_readBurn_14 : decode cX3_readBurn 14 = .ok (.aload_n 0, 1) := by decide +kernel
theorem dX3_readBurn_15 : decode cX3_readBurn 15 = .ok (.iload_n 1, 1) := by decide +kernel
theorem dX3_readBurn_16 : decode cX3_readBurn 16 = .ok (.iload_n 2, 1) := by decide +kernel
theorem dX3_readBurn_17 : decode cX3_readBurn 17 = .ok (.invokevirtual 148, 3) := by decide +kernel
theorem dX3_readBurn_20 : decode cX3_readBurn 20 = .ok (.istore_n 3, 1) := by decide +kernel
theorem dX3_readBurn_21 : decode cX3_readBurn 21 = .ok (.aload_n 0, 1) := by decide +kernel
theorem dX3_readBurn_22 : decode cX3_readBurn 22 = .ok (.iload_n 1, 1) := by decide +kernel
theorem dX3_readBurn_23 : decode cX3_readBurn 23 = .ok (.iload_n 2, 1) := by decide +kernel
theorem dX3_readBurn_24 : decode cX3_readBurn 24 = .ok (.invokevirtual 151, 3) := by decide +kernel
theorem dX3_readBurn_27 : decode cX3_readBurn 27 = .ok (.istore 4, 2) := by decide +kernel
theorem dX3_readBurn_29 : decode cX3_readBurn 29 = .ok (.aload_n 0, 1) := by decide +kernel
theorem dX3_readBurn_30 : decode cX3_readBurn 30 = .ok (.aload_n 0, 1) := by decide +kernel
theorem dX3_readBurn_31 : decode cX3_readBurn 31 = .ok (.getfield 23, 3) := by decide +kernel
theorem dX3_readBurn_34 : decode cX3_readBurn 34 = .ok (.getfield 154, 3) := by decide +kernel
theorem dX3_readBurn_37 : decode cX3_readBurn 37 = .ok (.iload_n 1, 1) := by decide +kernel
theorem dX3_readBurn_38 : decode cX3_readBurn 38 = .ok (.iload_n 2, 1) := by decide +kernel
theorem dX3_readBurn_39 : decode cX3_readBurn 39 = .ok (.invokestatic 156, 3) := by decide +kernel
theorem dX3_readBurn_42 : decode cX3_readBurn 42 = .ok (.iconst 1, 1) := by decide +kernel
theorem dX3_readBurn_43 : decode cX3_readBurn 43 = .ok (.sipush 9999, 3) := by decide +kernel
theorem dX3_readBurn_46 : decode cX3_readBurn 46 = .ok (.invokevirtual 79, 3) := by decide +kernel
theorem dX3_readBurn_49 : decode cX3_readBurn 49 = .ok (.istore 5, 2) := by decide +kernel
theorem dX3_readBurn_51 : decode cX3_readBurn 51 = .ok (.iload_n 3, 1) := by decide +kernel
theorem dX3_readBurn_52 : decode cX3_readBurn 52 = .ok (.sipush (-1000), 3) := by decide +kernel
theorem dX3_readBurn_55 : decode cX3_readBurn 55 = .ok (.if_icmp .eq 9, 3) := by decide +kernel
theorem dX3_readBurn_58 : decode cX3_readBurn 58 = .ok (.iload 5, 2) := by decide +kernel
theorem dX3_readBurn_60 : decode cX3_readBurn 60 = .ok (.iload_n 3, 1) := by decide +kernel
theorem dX3_readBurn_61 : decode cX3_readBurn 61 = .ok (.if_icmp .lt 18, 3) := by decide +kernel
theorem dX3_readBurn_64 : decode cX3_readBurn 64 = .ok (.iload 4, 2) := by decide +kernel
theorem dX3_readBurn_66 : decode cX3_readBurn 66 = .ok (.sipush (-1000), 3) := by decide +kernel
theorem dX3_readBurn_69 : decode cX3_readBurn 69 = .ok (.if_icmp .eq 15, 3) := by decide +kernel
theorem dX3_readBurn_72 : decode cX3_readBurn 72 = .ok (.iload 5, 2) := by decide +kernel
theorem dX3_readBurn_74 : decode cX3_readBurn 74 = .ok (.iload 4, 2) := by decide +kernel
theorem dX3_readBurn_76 : decode cX3_readBurn 76 = .ok (.if_icmp .le 8, 3) := by decide +kernel
theorem dX3_readBurn_79 : decode cX3_readBurn 79 = .ok (.aload_n 0, 1) := by decide +kernel
theorem dX3_readBurn_80 : decode cX3_readBurn 80 = .ok (.iconst 5, 1) := by decide +kernel
theorem dX3_readBurn_81 : decode cX3_readBurn 81 = .ok (.invokevirtual 117, 3) := by decide +kernel
theorem dX3_readBurn_84 : decode cX3_readBurn 84 = .ok (.return_, 1) := by decide +kernel
theorem dX3_readLast_0 : decode cX3_readLast 0 = .ok (.iload_n 2, 1) := by decide +kernel
theorem dX3_readLast_1 : decode cX3_readLast 1 = .ok (.ifCond .lt 9, 3) := by decide +kernel
theorem dX3_readLast_4 : decode cX3_readLast 4 = .ok (.iload_n 2, 1) := by decide +kernel
theorem dX3_readLast_5 : decode cX3_readLast 5 = .ok (.aload_n 1, 1) := by decide +kernel
theorem dX3_readLast_6 : decode cX3_readLast 6 = .ok (.arraylength, 1) := by decide +kernel
theorem dX3_readLast_7 : decode cX3_readLast 7 = .ok (.if_icmp .lt 5, 3) := by decide +kernel
theorem dX3_readLast_10 : decode cX3_readLast 10 = .ok (.iload_n 3, 1) := by decide +kernel
theorem dX3_readLast_11 : decode cX3_readLast 11 = .ok (.ireturn, 1) := by decide +kernel
theorem dX3_readLast_12 : decode cX3_readLast 12 = .ok (.aload_n 1, 1) := by decide +kernel
theorem dX3_readLast_13 : decode cX3_readLast 13 = .ok (.iload_n 2, 1) := by decide +kernel
theorem dX3_readLast_14 : decode cX3_readLast 14 = .ok (.iaload, 1) := by decide +kernel
theorem dX3_readLast_15 : decode cX3_readLast 15 = .ok (.sipush (-1000), 3) := by decide +kernel
theorem dX3_readLast_18 : decode cX3_readLast 18 = .ok (.if_icmp .eq 8, 3) := by decide +kernel
theorem dX3_readLast_21 : decode cX3_readLast 21 = .ok (.aload_n 0, 1) := by decide +kernel
theorem dX3_readLast_22 : decode cX3_readLast 22 = .ok (.iconst 4, 1) := by decide +kernel
theorem dX3_readLast_23 : decode cX3_readLast 23 = .ok (.invokevirtual 117, 3) := by decide +kernel
theorem dX3_readLast_26 : decode cX3_readLast 26 = .ok (.aload_n 1, 1) := by decide +kernel
theorem dX3_readLast_27 : decode cX3_readLast 27 = .ok (.iload_n 2, 1) := by decide +kernel
theorem dX3_readLast_28 : decode cX3_readLast 28 = .ok (.aload_n 0, 1) := by decide +kernel
theorem dX3_readLast_29 : decode cX3_readLast 29 = .ok (.iload_n 3, 1) := by decide +kernel
theorem dX3_readLast_30 : decode cX3_readLast 30 = .ok (.iload 4, 2) := by decide +kernel
theorem dX3_readLast_32 : decode cX3_readLast 32 = .ok (.invokevirtual 75, 3) := by decide +kernel
theorem dX3_readLast_35 : decode cX3_readLast 35 = .ok (.iastore, 1) := by decide +kernel
theorem dX3_readLast_36 : decode cX3_readLast 36 = .ok (.aload_n 1, 1) := by decide +kernel
theorem dX3_readLast_37 : decode cX3_readLast 37 = .ok (.iload_n 2, 1) := by decide +kernel
theorem dX3_readLast_38 : decode cX3_readLast 38 = .ok (.iaload, 1) := by decide +kernel
theorem dX3_readLast_39 : decode cX3_readLast 39 = .ok (.ireturn, 1) := by decide +kernel
theorem dX3_limitTold_0 : decode cX3_limitTold 0 = .ok (.aload_n 0, 1) := by decide +kernel
theorem dX3_limitTold_1 : decode cX3_limitTold 1 = .ok (.getfield 14, 3) := by decide +kernel
theorem dX3_limitTold_4 : decode cX3_limitTold 4 = .ok (.iconst 0, 1) := by decide +kernel
theorem dX3_limitTold_5 : decode cX3_limitTold 5 = .ok (.ldc 159, 2) := by decide +kernel
theorem dX3_limitTold_7 : decode cX3_limitTold 7 = .ok (.invokevirtual 64, 3) := by decide +kernel
theorem dX3_limitTold_10 : decode cX3_limitTold 10 = .ok (.ifCond .eq 5, 3) := by decide +kernel
theorem dX3_limitTold_13 : decode cX3_limitTold 13 = .ok (.iconst 0, 1) := by decide +kernel
theorem dX3_limitTold_14 : decode cX3_limitTold 14 = .ok (.ireturn, 1) := by decide +kernel
theorem dX3_limitTold_15 : decode cX3_limitTold 15 = .ok (.aload_n 0, 1) := by decide +kernel
theorem dX3_limitTold_16 : decode cX3_limitTold 16 = .ok (.getfield 14, 3) := by decide +kernel
theorem dX3_limitTold_19 : decode cX3_limitTold 19 = .ok (.iconst 0, 1) := by decide +kernel
theorem dX3_limitTold_20 : decode cX3_limitTold 20 = .ok (.ldc 161, 2) := by decide +kernel
theorem dX3_limitTold_22 : decode cX3_limitTold 22 = .ok (.invokevirtual 64, 3) := by decide +kernel
theorem dX3_limitTold_25 : decode cX3_limitTold 25 = .ok (.ifCond .eq 5, 3) := by decide +kernel
theorem dX3_limitTold_28 : decode cX3_limitTold 28 = .ok (.iconst 1, 1) := by decide +kernel
theorem dX3_limitTold_29 : decode cX3_limitTold 29 = .ok (.ireturn, 1) := by decide +kernel
theorem dX3_limitTold_30 : decode cX3_limitTold 30 = .ok (.aload_n 0, 1) := by decide +kernel
theorem dX3_limitTold_31 : decode cX3_limitTold 31 = .ok (.getfield 14, 3) := by decide +kernel
theorem dX3_limitTold_34 : decode cX3_limitTold 34 = .ok (.iconst 0, 1) := by decide +kernel
theorem dX3_limitTold_35 : decode cX3_limitTold 35 = .ok (.ldc 163, 2) := by decide +kernel
theorem dX3_limitTold_37 : decode cX3_limitTold 37 = .ok (.invokevirtual 64, 3) := by decide +kernel
theorem dX3_limitTold_40 : decode cX3_limitTold 40 = .ok (.ifCond .eq 5, 3) := by decide +kernel
theorem dX3_limitTold_43 : decode cX3_limitTold 43 = .ok (.iconst 2, 1) := by decide +kernel
theorem dX3_limitTold_44 : decode cX3_limitTold 44 = .ok (.ireturn, 1) := by decide +kernel
theorem dX3_limitTold_45 : decode cX3_limitTold 45 = .ok (.aload_n 0, 1) := by decide +kernel
theorem dX3_limitTold_46 : decode cX3_limitTold 46 = .ok (.getfield 14, 3) := by decide +kernel
theorem dX3_limitTold_49 : decode cX3_limitTold 49 = .ok (.iconst 0, 1) := by decide +kernel
theorem dX3_limitTold_50 : decode cX3_limitTold 50 = .ok (.ldc 165, 2) := by decide +kernel
theorem dX3_limitTold_52 : decode cX3_limitTold 52 = .ok (.invokevirtual 64, 3) := by decide +kernel
theorem dX3_limitTold_55 : decode cX3_limitTold 55 = .ok (.ifCond .eq 5, 3) := by decide +kernel
theorem dX3_limitTold_58 : decode cX3_limitTold 58 = .ok (.iconst 3, 1) := by decide +kernel
theorem dX3_limitTold_59 : decode cX3_limitTold 59 = .ok (.ireturn, 1) := by decide +kernel
theorem dX3_limitTold_60 : decode cX3_limitTold 60 = .ok (.aload_n 0, 1) := by decide +kernel
theorem dX3_limitTold_61 : decode cX3_limitTold 61 = .ok (.invokevirtual 59, 3) := by decide +kernel
theorem dX3_limitTold_64 : decode cX3_limitTold 64 = .ok (.iconst (-1), 1) := by decide +kernel
theorem dX3_limitTold_65 : decode cX3_limitTold 65 = .ok (.ireturn, 1) := by decide +kernel
theorem dX3_toldBurnBelow_0 : decode cX3_toldBurnBelow 0 = .ok (.sipush (-1000), 3) := by decide +kernel
theorem dX3_toldBurnBelow_3 : decode cX3_toldBurnBelow 3 = .ok (.istore_n 3, 1) := by decide +kernel
theorem dX3_toldBurnBelow_4 : decode cX3_toldBurnBelow 4 = .ok (.iload_n 2, 1) := by decide +kernel
theorem dX3_toldBurnBelow_5 : decode cX3_toldBurnBelow 5 = .ok (.iconst 1, 1) := by decide +kernel
theorem dX3_toldBurnBelow_6 : decode cX3_toldBurnBelow 6 = .ok (.isub, 1) := by decide +kernel
theorem dX3_toldBurnBelow_7 : decode cX3_toldBurnBelow 7 = .ok (.istore 4, 2) := by decide +kernel
theorem dX3_toldBurnBelow_9 : decode cX3_toldBurnBelow 9 = .ok (.iload 4, 2) := by decide +kernel
theorem dX3_toldBurnBelow_11 : decode cX3_toldBurnBelow 11 = .ok (.ifCond .lt 31, 3) := by decide +kernel
theorem dX3_toldBurnBelow_14 : decode cX3_toldBurnBelow 14 = .ok (.iload_n 3, 1) := by decide +kernel
theorem dX3_toldBurnBelow_15 : decode cX3_toldBurnBelow 15 = .ok (.sipush (-1000), 3) := by decide +kernel
theorem dX3_toldBurnBelow_18 : decode cX3_toldBurnBelow 18 = .ok (.if_icmp .ne 24, 3) := by decide +kernel
theorem dX3_toldBurnBelow_21 : decode cX3_toldBurnBelow 21 = .ok (.aload_n 0, 1) := by decide +kernel
theorem dX3_toldBurnBelow_22 : decode cX3_toldBurnBelow 22 = .ok (.getfield 23, 3) := by decide +kernel
theorem dX3_toldBurnBelow_25 : decode cX3_toldBurnBelow 25 = .ok (.getfield 154, 3) := by decide +kernel
theorem dX3_toldBurnBelow_28 : decode cX3_toldBurnBelow 28 = .ok (.iload_n 1, 1) := by decide +kernel
theorem dX3_toldBurnBelow_29 : decode cX3_toldBurnBelow 29 = .ok (.iload 4, 2) := by decide +kernel
theorem dX3_toldBurnBelow_31 : decode cX3_toldBurnBelow 31 = .ok (.invokestatic 156, 3) := by decide +kernel
theorem dX3_toldBurnBelow_34 : decode cX3_toldBurnBelow 34 = .ok (.iaload, 1) := by decide +kernel
theorem dX3_toldBurnBelow_35 : decode cX3_toldBurnBelow 35 = .ok (.istore_n 3, 1) := by decide +kernel
theorem dX3_toldBurnBelow_36 : decode cX3_toldBurnBelow 36 = .ok (.iinc 4 (-1), 3) := by decide +kernel
theorem dX3_toldBurnBelow_39 : decode cX3_toldBurnBelow 39 = .ok (.goto (-30), 3) := by decide +kernel
theorem dX3_toldBurnBelow_42 : decode cX3_toldBurnBelow 42 = .ok (.iload_n 3, 1) := by decide +kernel
theorem dX3_toldBurnBelow_43 : decode cX3_toldBurnBelow 43 = .ok (.ireturn, 1) := by decide +kernel
theorem dX3_toldBurnAbove_0 : decode cX3_toldBurnAbove 0 = .ok (.sipush (-1000), 3) := by decide +kernel
theorem dX3_toldBurnAbove_3 : decode cX3_toldBurnAbove 3 = .ok (.istore_n 3, 1) := by decide +kernel
theorem dX3_toldBurnAbove_4 : decode cX3_toldBurnAbove 4 = .ok (.iload_n 2, 1) := by decide +kernel
theorem dX3_toldBurnAbove_5 : decode cX3_toldBurnAbove 5 = .ok (.iconst 1, 1) := by decide +kernel
theorem dX3_toldBurnAbove_6 : decode cX3_toldBurnAbove 6 = .ok (.iadd, 1) := by decide +kernel
theorem dX3_toldBurnAbove_7 : decode cX3_toldBurnAbove 7 = .ok (.istore 4, 2) := by decide +kernel
theorem dX3_toldBurnAbove_9 : decode cX3_toldBurnAbove 9 = .ok (.iload 4, 2) := by decide +kernel
theorem dX3_toldBurnAbove_11 : decode cX3_toldBurnAbove 11 = .ok (.iconst 5, 1) := by decide +kernel
theorem dX3_toldBurnAbove_12 : decode cX3_toldBurnAbove 12 = .ok (.if_icmp .ge 31, 3) := by decide +kernel
theorem dX3_toldBurnAbove_15 : decode cX3_toldBurnAbove 15 = .ok (.iload_n 3, 1) := by decide +kernel
theorem dX3_toldBurnAbove_16 : decode cX3_toldBurnAbove 16 = .ok (.sipush (-1000), 3) := by decide +kernel
theorem dX3_toldBurnAbove_19 : decode cX3_toldBurnAbove 19 = .ok (.if_icmp .ne 24, 3) := by decide +kernel
theorem dX3_toldBurnAbove_22 : decode cX3_toldBurnAbove 22 = .ok (.aload_n 0, 1) := by decide +kernel
theorem dX3_toldBurnAbove_23 : decode cX3_toldBurnAbove 23 = .ok (.getfield 23, 3) := by decide +kernel
theorem dX3_toldBurnAbove_26 : decode cX3_toldBurnAbove 26 = .ok (.getfield 154, 3) := by decide +kernel
theorem dX3_toldBurnAbove_29 : decode cX3_toldBurnAbove 29 = .ok (.iload_n 1, 1) := by decide +kernel
theorem dX3_toldBurnAbove_30 : decode cX3_toldBurnAbove 30 = .ok (.iload 4, 2) := by decide +kernel
theorem dX3_toldBurnAbove_32 : decode cX3_toldBurnAbove 32 = .ok (.invokestatic 156, 3) := by decide +kernel
theorem dX3_toldBurnAbove_35 : decode cX3_toldBurnAbove 35 = .ok (.iaload, 1) := by decide +kernel
theorem dX3_toldBurnAbove_36 : decode cX3_toldBurnAbove 36 = .ok (.istore_n 3, 1) := by decide +kernel
theorem dX3_toldBurnAbove_37 : decode cX3_toldBurnAbove 37 = .ok (.iinc 4 1, 3) := by decide +kernel
theorem dX3_toldBurnAbove_40 : decode cX3_toldBurnAbove 40 = .ok (.goto (-31), 3) := by decide +kernel
theorem dX3_toldBurnAbove_43 : decode cX3_toldBurnAbove 43 = .ok (.iload_n 3, 1) := by decide +kernel
theorem dX3_toldBurnAbove_44 : decode cX3_toldBurnAbove 44 = .ok (.ireturn, 1) := by decide +kernel
theorem dX3_number_0 : decode cX3_number 0 = .ok (.aload_n 0, 1) := by decide +kernel
theorem dX3_number_1 : decode cX3_number 1 = .ok (.invokevirtual 132, 3) := by decide +kernel
theorem dX3_number_4 : decode cX3_number 4 = .ok (.aload_n 0, 1) := by decide +kernel
theorem dX3_number_5 : decode cX3_number 5 = .ok (.getfield 27, 3) := by decide +kernel
theorem dX3_number_8 : decode cX3_number 8 = .ok (.ifCond .eq 5, 3) := by decide +kernel
theorem dX3_number_11 : decode cX3_number 11 = .ok (.iload_n 1, 1) := by decide +kernel
theorem dX3_number_12 : decode cX3_number 12 = .ok (.ireturn, 1) := by decide +kernel
theorem dX3_number_13 : decode cX3_number 13 = .ok (.aload_n 0, 1) := by decide +kernel
theorem dX3_number_14 : decode cX3_number 14 = .ok (.getfield 14, 3) := by decide +kernel
theorem dX3_number_17 : decode cX3_number 17 = .ok (.getfield 46, 3) := by decide +kernel
theorem dX3_number_20 : decode cX3_number 20 = .ok (.aload_n 0, 1) := by decide +kernel
theorem dX3_number_21 : decode cX3_number 21 = .ok (.getfield 43, 3) := by decide +kernel
theorem dX3_number_24 : decode cX3_number 24 = .ok (.iaload, 1) := by decide +kernel
theorem dX3_number_25 : decode cX3_number 25 = .ok (.iconst 2, 1) := by decide +kernel
theorem dX3_number_26 : decode cX3_number 26 = .ok (.if_icmp .eq 9, 3) := by decide +kernel
theorem dX3_number_29 : decode cX3_number 29 = .ok (.aload_n 0, 1) := by decide +kernel
theorem dX3_number_30 : decode cX3_number 30 = .ok (.invokevirtual 59, 3) := by decide +kernel
theorem dX3_number_33 : decode cX3_number 33 = .ok (.iload_n 1, 1) := by decide +kernel
theorem dX3_number_34 : decode cX3_number 34 = .ok (.ireturn, 1) := by decide +kernel
theorem dX3_number_35 : decode cX3_number 35 = .ok (.aload_n 0, 1) := by decide +kernel
theorem dX3_number_36 : decode cX3_number 36 = .ok (.getfield 14, 3) := by decide +kernel
theorem dX3_number_39 : decode cX3_number 39 = .ok (.getfield 167, 3) := by decide +kernel
theorem dX3_number_42 : decode cX3_number 42 = .ok (.aload_n 0, 1) := by decide +kernel
theorem dX3_number_43 : decode cX3_number 43 = .ok (.getfield 43, 3) := by decide +kernel
theorem dX3_number_46 : decode cX3_number 46 = .ok (.iaload, 1) := by decide +kernel
theorem dX3_number_47 : decode cX3_number 47 = .ok (.istore_n 3, 1) := by decide +kernel
theorem dX3_number_48 : decode cX3_number 48 = .ok (.iload_n 3, 1) := by decide +kernel
theorem dX3_number_49 : decode cX3_number 49 = .ok (.iload_n 1, 1) := by decide +kernel
theorem dX3_number_50 : decode cX3_number 50 = .ok (.if_icmp .lt 8, 3) := by decide +kernel
theorem dX3_number_53 : decode cX3_number 53 = .ok (.iload_n 3, 1) := by decide +kernel
theorem dX3_number_54 : decode cX3_number 54 = .ok (.iload_n 2, 1) := by decide +kernel
theorem dX3_number_55 : decode cX3_number 55 = .ok (.if_icmp .le 10, 3) := by decide +kernel
theorem dX3_number_58 : decode cX3_number 58 = .ok (.aload_n 0, 1) := by decide +kernel
theorem dX3_number_59 : decode cX3_number 59 = .ok (.iconst 3, 1) := by decide +kernel
theorem dX3_number_60 : decode cX3_number 60 = .ok (.invokevirtual 117, 3) := by decide +kernel
theorem dX3_number_63 : decode cX3_number 63 = .ok (.iload_n 1, 1) := by decide +kernel
theorem dX3_number_64 : decode cX3_number 64 = .ok (.ireturn, 1) := by decide +kernel
theorem dX3_number_65 : decode cX3_number 65 = .ok (.iload_n 3, 1) := by decide +kernel
theorem dX3_number_66 : decode cX3_number 66 = .ok (.ireturn, 1) := by decide +kernel
theorem dX3_wantSign_0 : decode cX3_wantSign 0 = .ok (.aload_n 0, 1) := by decide +kernel
theorem dX3_wantSign_1 : decode cX3_wantSign 1 = .ok (.invokevirtual 132, 3) := by decide +kernel
theorem dX3_wantSign_4 : decode cX3_wantSign 4 = .ok (.aload_n 0, 1) := by decide +kernel
theorem dX3_wantSign_5 : decode cX3_wantSign 5 = .ok (.getfield 14, 3) := by decide +kernel
theorem dX3_wantSign_8 : decode cX3_wantSign 8 = .ok (.getfield 46, 3) := by decide +kernel
theorem dX3_wantSign_11 : decode cX3_wantSign 11 = .ok (.aload_n 0, 1) := by decide +kernel
theorem dX3_wantSign_12 : decode cX3_wantSign 12 = .ok (.getfield 43, 3) := by decide +kernel
theorem dX3_wantSign_15 : decode cX3_wantSign 15 = .ok (.iaload, 1) := by decide +kernel
theorem dX3_wantSign_16 : decode cX3_wantSign 16 = .ok (.iconst 3, 1) := by decide +kernel
theorem dX3_wantSign_17 : decode cX3_wantSign 17 = .ok (.if_icmp .eq 7, 3) := by decide +kernel
theorem dX3_wantSign_20 : decode cX3_wantSign 20 = .ok (.aload_n 0, 1) := by decide +kernel
theorem dX3_wantSign_21 : decode cX3_wantSign 21 = .ok (.invokevirtual 59, 3) := by decide +kernel
theorem dX3_wantSign_24 : decode cX3_wantSign 24 = .ok (.return_, 1) := by decide +kernel
theorem dX3_nextToken_0 : decode cX3_nextToken 0 = .ok (.aload_n 0, 1) := by decide +kernel
theorem dX3_nextToken_1 : decode cX3_nextToken 1 = .ok (.getfield 27, 3) := by decide +kernel
theorem dX3_nextToken_4 : decode cX3_nextToken 4 = .ok (.ifCond .ne 29, 3) := by decide +kernel
theorem dX3_nextToken_7 : decode cX3_nextToken 7 = .ok (.aload_n 0, 1) := by decide +kernel
theorem dX3_nextToken_8 : decode cX3_nextToken 8 = .ok (.getfield 43, 3) := by decide +kernel
theorem dX3_nextToken_11 : decode cX3_nextToken 11 = .ok (.iconst 1, 1) := by decide +kernel
theorem dX3_nextToken_12 : decode cX3_nextToken 12 = .ok (.iadd, 1) := by decide +kernel
theorem dX3_nextToken_13 : decode cX3_nextToken 13 = .ok (.aload_n 0, 1) := by decide +kernel
theorem dX3_nextToken_14 : decode cX3_nextToken 14 = .ok (.getfield 14, 3) := by decide +kernel
theorem dX3_nextToken_17 : decode cX3_nextToken 17 = .ok (.getfield 170, 3) := by decide +kernel
theorem dX3_nextToken_20 : decode cX3_nextToken 20 = .ok (.if_icmp .ge 13, 3) := by decide +kernel
theorem dX3_nextToken_23 : decode cX3_nextToken 23 = .ok (.aload_n 0, 1) := by decide +kernel
theorem dX3_nextToken_24 : decode cX3_nextToken 24 = .ok (.dup, 1) := by decide +kernel
theorem dX3_nextToken_25 : decode cX3_nextToken 25 = .ok (.getfield 43, 3) := by decide +kernel
theorem dX3_nextToken_28 : decode cX3_nextToken 28 = .ok (.iconst 1, 1) := by decide +kernel
theorem dX3_nextToken_29 : decode cX3_nextToken 29 = .ok (.iadd, 1) := by decide +kernel
theorem dX3_nextToken_30 : decode cX3_nextToken 30 = .ok (.putfield 43, 3) := by decide +kernel
theorem dX3_nextToken_33 : decode cX3_nextToken 33 = .ok (.return_, 1) := by decide +kernel
theorem dX3_refuseToken_0 : decode cX3_refuseToken 0 = .ok (.aload_n 0, 1) := by decide +kernel
theorem dX3_refuseToken_1 : decode cX3_refuseToken 1 = .ok (.aload_n 0, 1) := by decide +kernel
theorem dX3_refuseToken_2 : decode cX3_refuseToken 2 = .ok (.getfield 14, 3) := by decide +kernel
theorem dX3_refuseToken_5 : decode cX3_refuseToken 5 = .ok (.getfield 46, 3) := by decide +kernel
theorem dX3_refuseToken_8 : decode cX3_refuseToken 8 = .ok (.aload_n 0, 1) := by decide +kernel
theorem dX3_refuseToken_9 : decode cX3_refuseToken 9 = .ok (.getfield 43, 3) := by decide +kernel
theorem dX3_refuseToken_12 : decode cX3_refuseToken 12 = .ok (.iaload, 1) := by decide +kernel
theorem dX3_refuseToken_13 : decode cX3_refuseToken 13 = .ok (.iconst 4, 1) := by decide +kernel
theorem dX3_refuseToken_14 : decode cX3_refuseToken 14 = .ok (.if_icmp .ne 7, 3) := by decide +kernel
theorem dX3_refuseToken_17 : decode cX3_refuseToken 17 = .ok (.iconst 1, 1) := by decide +kernel
theorem dX3_refuseToken_18 : decode cX3_refuseToken 18 = .ok (.goto 4, 3) := by decide +kernel
theorem dX3_refuseToken_21 : decode cX3_refuseToken 21 = .ok (.iconst 2, 1) := by decide +kernel
theorem dX3_refuseToken_22 : decode cX3_refuseToken 22 = .ok (.invokevirtual 117, 3) := by decide +kernel
theorem dX3_refuseToken_25 : decode cX3_refuseToken 25 = .ok (.return_, 1) := by decide +kernel
theorem dX3_refuse_0 : decode cX3_refuse 0 = .ok (.aload_n 0, 1) := by decide +kernel
theorem dX3_refuse_1 : decode cX3_refuse 1 = .ok (.getfield 27, 3) := by decide +kernel
theorem dX3_refuse_4 : decode cX3_refuse 4 = .ok (.ifCond .ne 24, 3) := by decide +kernel
theorem dX3_refuse_7 : decode cX3_refuse 7 = .ok (.aload_n 0, 1) := by decide +kernel
theorem dX3_refuse_8 : decode cX3_refuse 8 = .ok (.iload_n 1, 1) := by decide +kernel
theorem dX3_refuse_9 : decode cX3_refuse 9 = .ok (.putfield 27, 3) := by decide +kernel
theorem dX3_refuse_12 : decode cX3_refuse 12 = .ok (.aload_n 0, 1) := by decide +kernel
theorem dX3_refuse_13 : decode cX3_refuse 13 = .ok (.aload_n 0, 1) := by decide +kernel
theorem dX3_refuse_14 : decode cX3_refuse 14 = .ok (.getfield 14, 3) := by decide +kernel
theorem dX3_refuse_17 : decode cX3_refuse 17 = .ok (.getfield 173, 3) := by decide +kernel
theorem dX3_refuse_20 : decode cX3_refuse 20 = .ok (.aload_n 0, 1) := by decide +kernel
theorem dX3_refuse_21 : decode cX3_refuse 21 = .ok (.getfield 43, 3) := by decide +kernel
theorem dX3_refuse_24 : decode cX3_refuse 24 = .ok (.iaload, 1) := by decide +kernel
theorem dX3_refuse_25 : decode cX3_refuse 25 = .ok (.putfield 31, 3) := by decide +kernel
theorem dX3_refuse_28 : decode cX3_refuse 28 = .ok (.return_, 1) := by decide +kernel
theorem dX4_init_0 : decode cX4_init 0 = .ok (.aload_n 0, 1) := by decide +kernel
theorem dX4_init_1 : decode cX4_init 1 = .ok (.invokespecial 3, 3) := by decide +kernel
theorem dX4_init_4 : decode cX4_init 4 = .ok (.aload_n 0, 1) := by decide +kernel
theorem dX4_init_5 : decode cX4_init 5 = .ok (.bipush 12, 2) := by decide +kernel
theorem dX4_init_7 : decode cX4_init 7 = .ok (.newarray .int, 2) := by decide +kernel
theorem dX4_init_9 : decode cX4_init 9 = .ok (.putfield 11, 3) := by decide +kernel
theorem dX4_init_12 : decode cX4_init 12 = .ok (.aload_n 0, 1) := by decide +kernel
theorem dX4_init_13 : decode cX4_init 13 = .ok (.bipush 12, 2) := by decide +kernel
theorem dX4_init_15 : decode cX4_init 15 = .ok (.newarray .int, 2) := by decide +kernel
theorem dX4_init_17 : decode cX4_init 17 = .ok (.putfield 15, 3) := by decide +kernel
theorem dX4_init_20 : decode cX4_init 20 = .ok (.aload_n 0, 1) := by decide +kernel
theorem dX4_init_21 : decode cX4_init 21 = .ok (.bipush 12, 2) := by decide +kernel
theorem dX4_init_23 : decode cX4_init 23 = .ok (.newarray .int, 2) := by decide +kernel
theorem dX4_init_25 : decode cX4_init 25 = .ok (.putfield 18, 3) := by decide +kernel
theorem dX4_init_28 : decode cX4_init 28 = .ok (.aload_n 0, 1) := by decide +kernel
theorem dX4_init_29 : decode cX4_init 29 = .ok (.aload_n 1, 1) := by decide +kernel
theorem dX4_init_30 : decode cX4_init 30 = .ok (.putfield 21, 3) := by decide +kernel
theorem dX4_init_33 : decode cX4_init 33 = .ok (.return_, 1) := by decide +kernel
theorem dX4_restart_0 : decode cX4_restart 0 = .ok (.aload_n 0, 1) := by decide +kernel
theorem dX4_restart_1 : decode cX4_restart 1 = .ok (.iconst 0, 1) := by decide +kernel
theorem dX4_restart_2 : decode cX4_restart 2 = .ok (.putfield 25, 3) := by decide +kernel
theorem dX4_restart_5 : decode cX4_restart 5 = .ok (.aload_n 0, 1) := by decide +kernel
theorem dX4_restart_6 : decode cX4_restart 6 = .ok (.iconst 0, 1) := by decide +kernel
theorem dX4_restart_7 : decode cX4_restart 7 = .ok (.putfield 29, 3) := by decide +kernel
theorem dX4_restart_10 : decode cX4_restart 10 = .ok (.return_, 1) := by decide +kernel
theorem dX4_scanLine_0 : decode cX4_scanLine 0 = .ok (.aload_n 0, 1) := by decide +kernel
theorem dX4_scanLine_1 : decode cX4_scanLine 1 = .ok (.iconst 0, 1) := by decide +kernel
theorem dX4_scanLine_2 : decode cX4_scanLine 2 = .ok (.putfield 25, 3) := by decide +kernel
theorem dX4_scanLine_5 : decode cX4_scanLine 5 = .ok (.iconst 0, 1) := by decide +kernel
theorem dX4_scanLine_6 : decode cX4_scanLine 6 = .ok (.istore_n 1, 1) := by decide +kernel
theorem dX4_scanLine_7 : decode cX4_scanLine 7 = .ok (.iload_n 1, 1) := by decide +kernel
