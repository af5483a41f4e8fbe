theorem dX0_init_0 : decode cX0_init 0 = .ok (.aload_n 0, 1) := by decide +kernel
theorem dX0_init_1 : decode cX0_init 1 = .ok (.invokespecial 3, 3) := by decide +kernel
theorem dX0_init_4 : decode cX0_init 4 = .ok (.aload_n 0, 1) := by decide +kernel
theorem dX0_init_5 : decode cX0_init 5 = .ok (.bipush 16, 2) := by decide +kernel
theorem dX0_init_7 : decode cX0_init 7 = .ok (.newarray .int, 2) := by decide +kernel
theorem dX0_init_9 : decode cX0_init 9 = .ok (.putfield 9, 3) := by decide +kernel
theorem dX0_init_12 : decode cX0_init 12 = .ok (.aload_n 0, 1) := by decide +kernel
theorem dX0_init_13 : decode cX0_init 13 = .ok (.bipush 16, 2) := by decide +kernel
theorem dX0_init_15 : decode cX0_init 15 = .ok (.newarray .int, 2) := by decide +kernel
theorem dX0_init_17 : decode cX0_init 17 = .ok (.putfield 15, 3) := by decide +kernel
theorem dX0_init_20 : decode cX0_init 20 = .ok (.aload_n 0, 1) := by decide +kernel
theorem dX0_init_21 : decode cX0_init 21 = .ok (.bipush 16, 2) := by decide +kernel
theorem dX0_init_23 : decode cX0_init 23 = .ok (.newarray .int, 2) := by decide +kernel
theorem dX0_init_25 : decode cX0_init 25 = .ok (.putfield 18, 3) := by decide +kernel
theorem dX0_init_28 : decode cX0_init 28 = .ok (.aload_n 0, 1) := by decide +kernel
theorem dX0_init_29 : decode cX0_init 29 = .ok (.bipush 16, 2) := by decide +kernel
theorem dX0_init_31 : decode cX0_init 31 = .ok (.newarray .int, 2) := by decide +kernel
theorem dX0_init_33 : decode cX0_init 33 = .ok (.putfield 21, 3) := by decide +kernel
theorem dX0_init_36 : decode cX0_init 36 = .ok (.aload_n 0, 1) := by decide +kernel
theorem dX0_init_37 : decode cX0_init 37 = .ok (.bipush 16, 2) := by decide +kernel
theorem dX0_init_39 : decode cX0_init 39 = .ok (.newarray .int, 2) := by decide +kernel
theorem dX0_init_41 : decode cX0_init 41 = .ok (.putfield 24, 3) := by decide +kernel
theorem dX0_init_44 : decode cX0_init 44 = .ok (.aload_n 0, 1) := by decide +kernel
theorem dX0_init_45 : decode cX0_init 45 = .ok (.bipush 16, 2) := by decide +kernel
theorem dX0_init_47 : decode cX0_init 47 = .ok (.newarray .int, 2) := by decide +kernel
theorem dX0_init_49 : decode cX0_init 49 = .ok (.putfield 27, 3) := by decide +kernel
theorem dX0_init_52 : decode cX0_init 52 = .ok (.aload_n 0, 1) := by decide +kernel
theorem dX0_init_53 : decode cX0_init 53 = .ok (.bipush 16, 2) := by decide +kernel
theorem dX0_init_55 : decode cX0_init 55 = .ok (.newarray .int, 2) := by decide +kernel
theorem dX0_init_57 : decode cX0_init 57 = .ok (.putfield 30, 3) := by decide +kernel
theorem dX0_init_60 : decode cX0_init 60 = .ok (.aload_n 0, 1) := by decide +kernel
theorem dX0_init_61 : decode cX0_init 61 = .ok (.bipush 6, 2) := by decide +kernel
theorem dX0_init_63 : decode cX0_init 63 = .ok (.newarray .int, 2) := by decide +kernel
theorem dX0_init_65 : decode cX0_init 65 = .ok (.putfield 33, 3) := by decide +kernel
theorem dX0_init_68 : decode cX0_init 68 = .ok (.aload_n 0, 1) := by decide +kernel
theorem dX0_init_69 : decode cX0_init 69 = .ok (.sipush 288, 3) := by decide +kernel
theorem dX0_init_72 : decode cX0_init 72 = .ok (.newarray .int, 2) := by decide +kernel
theorem dX0_init_74 : decode cX0_init 74 = .ok (.putfield 36, 3) := by decide +kernel
theorem dX0_init_77 : decode cX0_init 77 = .ok (.aload_n 0, 1) := by decide +kernel
theorem dX0_init_78 : decode cX0_init 78 = .ok (.bipush 30, 2) := by decide +kernel
theorem dX0_init_80 : decode cX0_init 80 = .ok (.newarray .int, 2) := by decide +kernel
theorem dX0_init_82 : decode cX0_init 82 = .ok (.putfield 39, 3) := by decide +kernel
theorem dX0_init_85 : decode cX0_init 85 = .ok (.aload_n 0, 1) := by decide +kernel
theorem dX0_init_86 : decode cX0_init 86 = .ok (.bipush 6, 2) := by decide +kernel
theorem dX0_init_88 : decode cX0_init 88 = .ok (.newarray .int, 2) := by decide +kernel
theorem dX0_init_90 : decode cX0_init 90 = .ok (.putfield 42, 3) := by decide +kernel
theorem dX0_init_93 : decode cX0_init 93 = .ok (.aload_n 0, 1) := by decide +kernel
theorem dX0_init_94 : decode cX0_init 94 = .ok (.iconst 4, 1) := by decide +kernel
theorem dX0_init_95 : decode cX0_init 95 = .ok (.newarray .int, 2) := by decide +kernel
theorem dX0_init_97 : decode cX0_init 97 = .ok (.putfield 45, 3) := by decide +kernel
theorem dX0_init_100 : decode cX0_init 100 = .ok (.aload_n 0, 1) := by decide +kernel
theorem dX0_init_101 : decode cX0_init 101 = .ok (.bipush 7, 2) := by decide +kernel
theorem dX0_init_103 : decode cX0_init 103 = .ok (.newarray .int, 2) := by decide +kernel
theorem dX0_init_105 : decode cX0_init 105 = .ok (.putfield 48, 3) := by decide +kernel
theorem dX0_init_108 : decode cX0_init 108 = .ok (.aload_n 0, 1) := by decide +kernel
theorem dX0_init_109 : decode cX0_init 109 = .ok (.invokevirtual 51, 3) := by decide +kernel
theorem dX0_init_112 : decode cX0_init 112 = .ok (.return_, 1) := by decide +kernel
theorem dX0_clear_0 : decode cX0_clear 0 = .ok (.aload_n 0, 1) := by decide +kernel
theorem dX0_clear_1 : decode cX0_clear 1 = .ok (.iconst 0, 1) := by decide +kernel
theorem dX0_clear_2 : decode cX0_clear 2 = .ok (.putfield 54, 3) := by decide +kernel
theorem dX0_clear_5 : decode cX0_clear 5 = .ok (.aload_n 0, 1) := by decide +kernel
theorem dX0_clear_6 : decode cX0_clear 6 = .ok (.iconst 0, 1) := by decide +kernel
theorem dX0_clear_7 : decode cX0_clear 7 = .ok (.putfield 58, 3) := by decide +kernel
theorem dX0_clear_10 : decode cX0_clear 10 = .ok (.aload_n 0, 1) := by decide +kernel
theorem dX0_clear_11 : decode cX0_clear 11 = .ok (.getfield 33, 3) := by decide +kernel
theorem dX0_clear_14 : decode cX0_clear 14 = .ok (.sipush (-1000), 3) := by decide +kernel
theorem dX0_clear_17 : decode cX0_clear 17 = .ok (.invokestatic 61, 3) := by decide +kernel
theorem dX0_clear_20 : decode cX0_clear 20 = .ok (.aload_n 0, 1) := by decide +kernel
theorem dX0_clear_21 : decode cX0_clear 21 = .ok (.getfield 36, 3) := by decide +kernel
theorem dX0_clear_24 : decode cX0_clear 24 = .ok (.sipush (-1000), 3) := by decide +kernel
theorem dX0_clear_27 : decode cX0_clear 27 = .ok (.invokestatic 61, 3) := by decide +kernel
theorem dX0_clear_30 : decode cX0_clear 30 = .ok (.aload_n 0, 1) := by decide +kernel
theorem dX0_clear_31 : decode cX0_clear 31 = .ok (.getfield 39, 3) := by decide +kernel
theorem dX0_clear_34 : decode cX0_clear 34 = .ok (.sipush (-1000), 3) := by decide +kernel
theorem dX0_clear_37 : decode cX0_clear 37 = .ok (.invokestatic 61, 3) := by decide +kernel
theorem dX0_clear_40 : decode cX0_clear 40 = .ok (.aload_n 0, 1) := by decide +kernel
theorem dX0_clear_41 : decode cX0_clear 41 = .ok (.getfield 42, 3) := by decide +kernel
theorem dX0_clear_44 : decode cX0_clear 44 = .ok (.sipush (-1000), 3) := by decide +kernel
theorem dX0_clear_47 : decode cX0_clear 47 = .ok (.invokestatic 61, 3) := by decide +kernel
theorem dX0_clear_50 : decode cX0_clear 50 = .ok (.aload_n 0, 1) := by decide +kernel
theorem dX0_clear_51 : decode cX0_clear 51 = .ok (.getfield 45, 3) := by decide +kernel
theorem dX0_clear_54 : decode cX0_clear 54 = .ok (.sipush (-1000), 3) := by decide +kernel
theorem dX0_clear_57 : decode cX0_clear 57 = .ok (.invokestatic 61, 3) := by decide +kernel
theorem dX0_clear_60 : decode cX0_clear 60 = .ok (.return_, 1) := by decide +kernel
theorem dX0_leadOn_0 : decode cX0_leadOn 0 = .ok (.iconst 0, 1) := by decide +kernel
theorem dX0_leadOn_1 : decode cX0_leadOn 1 = .ok (.istore_n 1, 1) := by decide +kernel
theorem dX0_leadOn_2 : decode cX0_leadOn 2 = .ok (.iload_n 1, 1) := by decide +kernel
theorem dX0_leadOn_3 : decode cX0_leadOn 3 = .ok (.bipush 6, 2) := by decide +kernel
theorem dX0_leadOn_5 : decode cX0_leadOn 5 = .ok (.if_icmp .ge 55, 3) := by decide +kernel
theorem dX0_leadOn_8 : decode cX0_leadOn 8 = .ok (.aload_n 0, 1) := by decide +kernel
theorem dX0_leadOn_9 : decode cX0_leadOn 9 = .ok (.getfield 33, 3) := by decide +kernel
theorem dX0_leadOn_12 : decode cX0_leadOn 12 = .ok (.iload_n 1, 1) := by decide +kernel
theorem dX0_leadOn_13 : decode cX0_leadOn 13 = .ok (.sipush 400, 3) := by decide +kernel
theorem dX0_leadOn_16 : decode cX0_leadOn 16 = .ok (.invokestatic 67, 3) := by decide +kernel
theorem dX0_leadOn_19 : decode cX0_leadOn 19 = .ok (.aload_n 0, 1) := by decide +kernel
theorem dX0_leadOn_20 : decode cX0_leadOn 20 = .ok (.getfield 42, 3) := by decide +kernel
theorem dX0_leadOn_23 : decode cX0_leadOn 23 = .ok (.iload_n 1, 1) := by decide +kernel
theorem dX0_leadOn_24 : decode cX0_leadOn 24 = .ok (.iconst 0, 1) := by decide +kernel
theorem dX0_leadOn_25 : decode cX0_leadOn 25 = .ok (.invokestatic 67, 3) := by decide +kernel
theorem dX0_leadOn_28 : decode cX0_leadOn 28 = .ok (.aload_n 0, 1) := by decide +kernel
theorem dX0_leadOn_29 : decode cX0_leadOn 29 = .ok (.getfield 48, 3) := by decide +kernel
theorem dX0_leadOn_32 : decode cX0_leadOn 32 = .ok (.iload_n 1, 1) := by decide +kernel
theorem dX0_leadOn_33 : decode cX0_leadOn 33 = .ok (.iconst 1, 1) := by decide +kernel
theorem dX0_leadOn_34 : decode cX0_leadOn 34 = .ok (.iadd, 1) := by decide +kernel
theorem dX0_leadOn_35 : decode cX0_leadOn 35 = .ok (.aload_n 0, 1) := by decide +kernel
theorem dX0_leadOn_36 : decode cX0_leadOn 36 = .ok (.getfield 48, 3) := by decide +kernel
theorem dX0_leadOn_39 : decode cX0_leadOn 39 = .ok (.iload_n 1, 1) := by decide +kernel
theorem dX0_leadOn_40 : decode cX0_leadOn 40 = .ok (.iaload, 1) := by decide +kernel
theorem dX0_leadOn_41 : decode cX0_leadOn 41 = .ok (.aload_n 0, 1) := by decide +kernel
theorem dX0_leadOn_42 : decode cX0_leadOn 42 = .ok (.getfield 42, 3) := by decide +kernel
theorem dX0_leadOn_45 : decode cX0_leadOn 45 = .ok (.iload_n 1, 1) := by decide +kernel
theorem dX0_leadOn_46 : decode cX0_leadOn 46 = .ok (.iaload, 1) := by decide +kernel
theorem dX0_leadOn_47 : decode cX0_leadOn 47 = .ok (.iadd, 1) := by decide +kernel
theorem dX0_leadOn_48 : decode cX0_leadOn 48 = .ok (.iastore, 1) := by decide +kernel
theorem dX0_leadOn_49 : decode cX0_leadOn 49 = .ok (.aload_n 0, 1) := by decide +kernel
theorem dX0_leadOn_50 : decode cX0_leadOn 50 = .ok (.iload_n 1, 1) := by decide +kernel
theorem dX0_leadOn_51 : decode cX0_leadOn 51 = .ok (.invokevirtual 71, 3) := by decide +kernel
theorem dX0_leadOn_54 : decode cX0_leadOn 54 = .ok (.iinc 1 1, 3) := by decide +kernel
theorem dX0_leadOn_57 : decode cX0_leadOn 57 = .ok (.goto (-55), 3) := by decide +kernel
theorem dX0_leadOn_60 : decode cX0_leadOn 60 = .ok (.aload_n 0, 1) := by decide +kernel
theorem dX0_leadOn_61 : decode cX0_leadOn 61 = .ok (.invokevirtual 75, 3) := by decide +kernel
theorem dX0_leadOn_64 : decode cX0_leadOn 64 = .ok (.aload_n 0, 1) := by decide +kernel
theorem dX0_leadOn_65 : decode cX0_leadOn 65 = .ok (.getfield 45, 3) := by decide +kernel
theorem dX0_leadOn_68 : decode cX0_leadOn 68 = .ok (.iconst 0, 1) := by decide +kernel
theorem dX0_leadOn_69 : decode cX0_leadOn 69 = .ok (.sipush 30000, 3) := by decide +kernel
theorem dX0_leadOn_72 : decode cX0_leadOn 72 = .ok (.invokestatic 67, 3) := by decide +kernel
theorem dX0_leadOn_75 : decode cX0_leadOn 75 = .ok (.aload_n 0, 1) := by decide +kernel
theorem dX0_leadOn_76 : decode cX0_leadOn 76 = .ok (.getfield 45, 3) := by decide +kernel
theorem dX0_leadOn_79 : decode cX0_leadOn 79 = .ok (.iconst 1, 1) := by decide +kernel
theorem dX0_leadOn_80 : decode cX0_leadOn 80 = .ok (.ldc 78, 2) := by decide +kernel
theorem dX0_leadOn_82 : decode cX0_leadOn 82 = .ok (.invokestatic 67, 3) := by decide +kernel
theorem dX0_leadOn_85 : decode cX0_leadOn 85 = .ok (.aload_n 0, 1) := by decide +kernel
theorem dX0_leadOn_86 : decode cX0_leadOn 86 = .ok (.getfield 45, 3) := by decide +kernel
theorem dX0_leadOn_89 : decode cX0_leadOn 89 = .ok (.iconst 2, 1) := by decide +kernel
theorem dX0_leadOn_90 : decode cX0_leadOn 90 = .ok (.ldc 78, 2) := by decide +kernel
theorem dX0_leadOn_92 : decode cX0_leadOn 92 = .ok (.invokestatic 67, 3) := by decide +kernel
theorem dX0_leadOn_95 : decode cX0_leadOn 95 = .ok (.aload_n 0, 1) := by decide +kernel
theorem dX0_leadOn_96 : decode cX0_leadOn 96 = .ok (.getfield 45, 3) := by decide +kernel
theorem dX0_leadOn_99 : decode cX0_leadOn 99 = .ok (.iconst 3, 1) := by decide +kernel
theorem dX0_leadOn_100 : decode cX0_leadOn 100 = .ok (.iconst 0, 1) := by decide +kernel
theorem dX0_leadOn_101 : decode cX0_leadOn 101 = .ok (.invokestatic 67, 3) := by decide +kernel
theorem dX0_leadOn_104 : decode cX0_leadOn 104 = .ok (.return_, 1) := by decide +kernel
theorem dX0_take_0 : decode cX0_take 0 = .ok (.aload_n 0, 1) := by decide +kernel
theorem dX0_take_1 : decode cX0_take 1 = .ok (.aload_n 1, 1) := by decide +kernel
theorem dX0_take_2 : decode cX0_take 2 = .ok (.getfield 54, 3) := by decide +kernel
theorem dX0_take_5 : decode cX0_take 5 = .ok (.putfield 54, 3) := by decide +kernel
theorem dX0_take_8 : decode cX0_take 8 = .ok (.aload_n 0, 1) := by decide +kernel
theorem dX0_take_9 : decode cX0_take 9 = .ok (.aload_n 1, 1) := by decide +kernel
theorem dX0_take_10 : decode cX0_take 10 = .ok (.getfield 58, 3) := by decide +kernel
theorem dX0_take_13 : decode cX0_take 13 = .ok (.putfield 58, 3) := by decide +kernel
theorem dX0_take_16 : decode cX0_take 16 = .ok (.aload_n 1, 1) := by decide +kernel
theorem dX0_take_17 : decode cX0_take 17 = .ok (.getfield 9, 3) := by decide +kernel
theorem dX0_take_20 : decode cX0_take 20 = .ok (.aload_n 0, 1) := by decide +kernel
theorem dX0_take_21 : decode cX0_take 21 = .ok (.getfield 9, 3) := by decide +kernel
theorem dX0_take_24 : decode cX0_take 24 = .ok (.invokestatic 79, 3) := by decide +kernel
theorem dX0_take_27 : decode cX0_take 27 = .ok (.aload_n 1, 1) := by decide +kernel
theorem dX0_take_28 : decode cX0_take 28 = .ok (.getfield 15, 3) := by decide +kernel
theorem dX0_take_31 : decode cX0_take 31 = .ok (.aload_n 0, 1) := by decide +kernel
theorem dX0_take_32 : decode cX0_take 32 = .ok (.getfield 15, 3) := by decide +kernel
theorem dX0_take_35 : decode cX0_take 35 = .ok (.invokestatic 79, 3) := by decide +kernel
theorem dX0_take_38 : decode cX0_take 38 = .ok (.aload_n 1, 1) := by decide +kernel
theorem dX0_take_39 : decode cX0_take 39 = .ok (.getfield 18, 3) := by decide +kernel
theorem dX0_take_42 : decode cX0_take 42 = .ok (.aload_n 0, 1) := by decide +kernel
theorem dX0_take_43 : decode cX0_take 43 = .ok (.getfield 18, 3) := by decide +kernel
theorem dX0_take_46 : decode cX0_take 46 = .ok (.invokestatic 79, 3) := by decide +kernel
theorem dX0_take_49 : decode cX0_take 49 = .ok (.aload_n 1, 1) := by decide +kernel
theorem dX0_take_50 : decode cX0_take 50 = .ok (.getfield 21, 3) := by decide +kernel
theorem dX0_take_53 : decode cX0_take 53 = .ok (.aload_n 0, 1) := by decide +kernel
theorem dX0_take_54 : decode cX0_take 54 = .ok (.getfield 21, 3) := by decide +kernel
theorem dX0_take_57 : decode cX0_take 57 = .ok (.invokestatic 79, 3) := by decide +kernel
theorem dX0_take_60 : decode cX0_take 60 = .ok (.aload_n 1, 1) := by decide +kernel
theorem dX0_take_61 : decode cX0_take 61 = .ok (.getfield 24, 3) := by decide +kernel
theorem dX0_take_64 : decode cX0_take 64 = .ok (.aload_n 0, 1) := by decide +kernel
theorem dX0_take_65 : decode cX0_take 65 = .ok (.getfield 24, 3) := by decide +kernel
theorem dX0_take_68 : decode cX0_take 68 = .ok (.invokestatic 79, 3) := by decide +kernel
theorem dX0_take_71 : decode cX0_take 71 = .ok (.aload_n 1, 1) := by decide +kernel
theorem dX0_take_72 : decode cX0_take 72 = .ok (.getfield 27, 3) := by decide +kernel
theorem dX0_take_75 : decode cX0_take 75 = .ok (.aload_n 0, 1) := by decide +kernel
theorem dX0_take_76 : decode cX0_take 76 = .ok (.getfield 27, 3) := by decide +kernel
theorem dX0_take_79 : decode cX0_take 79 = .ok (.invokestatic 79, 3) := by decide +kernel
theorem dX0_take_82 : decode cX0_take 82 = .ok (.aload_n 1, 1) := by decide +kernel
theorem dX0_take_83 : decode cX0_take 83 = .ok (.getfield 30, 3) := by decide +kernel
theorem dX0_take_86 : decode cX0_take 86 = .ok (.aload_n 0, 1) := by decide +kernel
theorem dX0_take_87 : decode cX0_take 87 = .ok (.getfield 30, 3) := by decide +kernel
theorem dX0_take_90 : decode cX0_take 90 = .ok (.invokestatic 79, 3) := by decide +kernel
theorem dX0_take_93 : decode cX0_take 93 = .ok (.aload_n 1, 1) := by decide +kernel
theorem dX0_take_94 : decode cX0_take 94 = .ok (.getfield 33, 3) := by decide +kernel
theorem dX0_take_97 : decode cX0_take 97 = .ok (.aload_n 0, 1) := by decide +kernel
theorem dX0_take_98 : decode cX0_take 98 = .ok (.getfield 33, 3) := by decide +kernel
theorem dX0_take_101 : decode cX0_take 101 = .ok (.invokestatic 79, 3) := by decide +kernel
theorem dX0_take_104 : decode cX0_take 104 = .ok (.aload_n 1, 1) := by decide +kernel
theorem dX0_take_105 : decode cX0_take 105 = .ok (.getfield 36, 3) := by decide +kernel
theorem dX0_take_108 : decode cX0_take 108 = .ok (.aload_n 0, 1) := by decide +kernel
theorem dX0_take_109 : decode cX0_take 109 = .ok (.getfield 36, 3) := by decide +kernel
theorem dX0_take_112 : decode cX0_take 112 = .ok (.invokestatic 79, 3) := by decide +kernel
theorem dX0_take_115 : decode cX0_take 115 = .ok (.aload_n 1, 1) := by decide +kernel
theorem dX0_take_116 : decode cX0_take 116 = .ok (.getfield 39, 3) := by decide +kernel
theorem dX0_take_119 : decode cX0_take 119 = .ok (.aload_n 0, 1) := by decide +kernel
theorem dX0_take_120 : decode cX0_take 120 = .ok (.getfield 39, 3) := by decide +kernel
theorem dX0_take_123 : decode cX0_take 123 = .ok (.invokestatic 79, 3) := by decide +kernel
theorem dX0_take_126 : decode cX0_take 126 = .ok (.aload_n 1, 1) := by decide +kernel
theorem dX0_take_127 : decode cX0_take 127 = .ok (.getfield 42, 3) := by decide +kernel
theorem dX0_take_130 : decode cX0_take 130 = .ok (.aload_n 0, 1) := by decide +kernel
theorem dX0_take_131 : decode cX0_take 131 = .ok (.getfield 42, 3) := by decide +kernel
theorem dX0_take_134 : decode cX0_take 134 = .ok (.invokestatic 79, 3) := by decide +kernel
theorem dX0_take_137 : decode cX0_take 137 = .ok (.aload_n 1, 1) := by decide +kernel
theorem dX0_take_138 : decode cX0_take 138 = .ok (.getfield 45, 3) := by decide +kernel
theorem dX0_take_141 : decode cX0_take 141 = .ok (.aload_n 0, 1) := by decide +kernel
theorem dX0_take_142 : decode cX0_take 142 = .ok (.getfield 45, 3) := by decide +kernel
theorem dX0_take_145 : decode cX0_take 145 = .ok (.invokestatic 79, 3) := by decide +kernel
theorem dX0_take_148 : decode cX0_take 148 = .ok (.aload_n 1, 1) := by decide +kernel
theorem dX0_take_149 : decode cX0_take 149 = .ok (.getfield 48, 3) := by decide +kernel
theorem dX0_take_152 : decode cX0_take 152 = .ok (.aload_n 0, 1) := by decide +kernel
theorem dX0_take_153 : decode cX0_take 153 = .ok (.getfield 48, 3) := by decide +kernel
theorem dX0_take_156 : decode cX0_take 156 = .ok (.invokestatic 79, 3) := by decide +kernel
theorem dX0_take_159 : decode cX0_take 159 = .ok (.return_, 1) := by decide +kernel
theorem dX0_climbsTo_0 : decode cX0_climbsTo 0 = .ok (.iconst 0, 1) := by decide +kernel
theorem dX0_climbsTo_1 : decode cX0_climbsTo 1 = .ok (.aload_n 0, 1) := by decide +kernel
theorem dX0_climbsTo_2 : decode cX0_climbsTo 2 = .ok (.getfield 48, 3) := by decide +kernel
theorem dX0_climbsTo_5 : decode cX0_climbsTo 5 = .ok (.iload_n 1, 1) := by decide +kernel
theorem dX0_climbsTo_6 : decode cX0_climbsTo 6 = .ok (.iconst 1, 1) := by decide +kernel
theorem dX0_climbsTo_7 : decode cX0_climbsTo 7 = .ok (.iadd, 1) := by decide +kernel
theorem dX0_climbsTo_8 : decode cX0_climbsTo 8 = .ok (.iaload, 1) := by decide +kernel
theorem dX0_climbsTo_9 : decode cX0_climbsTo 9 = .ok (.aload_n 0, 1) := by decide +kernel
theorem dX0_climbsTo_10 : decode cX0_climbsTo 10 = .ok (.getfield 48, 3) := by decide +kernel
theorem dX0_climbsTo_13 : decode cX0_climbsTo 13 = .ok (.iload_n 2, 1) := by decide +kernel
theorem dX0_climbsTo_14 : decode cX0_climbsTo 14 = .ok (.iaload, 1) := by decide +kernel
theorem dX0_climbsTo_15 : decode cX0_climbsTo 15 = .ok (.isub, 1) := by decide +kernel
theorem dX0_climbsTo_16 : decode cX0_climbsTo 16 = .ok (.invokestatic 83, 3) := by decide +kernel
theorem dX0_climbsTo_19 : decode cX0_climbsTo 19 = .ok (.ireturn, 1) := by decide +kernel
theorem dX0_leadBurnsOn_0 : decode cX0_leadBurnsOn 0 = .ok (.sipush 1000, 3) := by decide +kernel
theorem dX0_leadBurnsOn_3 : decode cX0_leadBurnsOn 3 = .ok (.istore_n 2, 1) := by decide +kernel
theorem dX0_leadBurnsOn_4 : decode cX0_leadBurnsOn 4 = .ok (.iconst 4, 1) := by decide +kernel
theorem dX0_leadBurnsOn_5 : decode cX0_leadBurnsOn 5 = .ok (.istore_n 3, 1) := by decide +kernel
theorem dX0_leadBurnsOn_6 : decode cX0_leadBurnsOn 6 = .ok (.iload_n 3, 1) := by decide +kernel
theorem dX0_leadBurnsOn_7 : decode cX0_leadBurnsOn 7 = .ok (.ifCond .lt 36, 3) := by decide +kernel
theorem dX0_leadBurnsOn_10 : decode cX0_leadBurnsOn 10 = .ok (.aload_n 0, 1) := by decide +kernel
theorem dX0_leadBurnsOn_11 : decode cX0_leadBurnsOn 11 = .ok (.getfield 39, 3) := by decide +kernel
theorem dX0_leadBurnsOn_14 : decode cX0_leadBurnsOn 14 = .ok (.iload_n 1, 1) := by decide +kernel
theorem dX0_leadBurnsOn_15 : decode cX0_leadBurnsOn 15 = .ok (.iload_n 3, 1) := by decide +kernel
theorem dX0_leadBurnsOn_16 : decode cX0_leadBurnsOn 16 = .ok (.invokestatic 89, 3) := by decide +kernel
theorem dX0_leadBurnsOn_19 : decode cX0_leadBurnsOn 19 = .ok (.iaload, 1) := by decide +kernel
theorem dX0_leadBurnsOn_20 : decode cX0_leadBurnsOn 20 = .ok (.istore 4, 2) := by decide +kernel
theorem dX0_leadBurnsOn_22 : decode cX0_leadBurnsOn 22 = .ok (.iload 4, 2) := by decide +kernel
theorem dX0_leadBurnsOn_24 : decode cX0_leadBurnsOn 24 = .ok (.sipush (-1000), 3) := by decide +kernel
theorem dX0_leadBurnsOn_27 : decode cX0_leadBurnsOn 27 = .ok (.if_icmp .ne 7, 3) := by decide +kernel
theorem dX0_leadBurnsOn_30 : decode cX0_leadBurnsOn 30 = .ok (.iload_n 2, 1) := by decide +kernel
theorem dX0_leadBurnsOn_31 : decode cX0_leadBurnsOn 31 = .ok (.goto 5, 3) := by decide +kernel
theorem dX0_leadBurnsOn_34 : decode cX0_leadBurnsOn 34 = .ok (.iload 4, 2) := by decide +kernel
theorem dX0_leadBurnsOn_36 : decode cX0_leadBurnsOn 36 = .ok (.istore_n 2, 1) := by decide +kernel
theorem dX0_leadBurnsOn_37 : decode cX0_leadBurnsOn 37 = .ok (.iinc 3 (-1), 3) := by decide +kernel
theorem dX0_leadBurnsOn_40 : decode cX0_leadBurnsOn 40 = .ok (.goto (-34), 3) := by decide +kernel
theorem dX0_leadBurnsOn_43 : decode cX0_leadBurnsOn 43 = .ok (.iconst 0, 1) := by decide +kernel
theorem dX0_leadBurnsOn_44 : decode cX0_leadBurnsOn 44 = .ok (.istore_n 3, 1) := by decide +kernel
theorem dX0_leadBurnsOn_45 : decode cX0_leadBurnsOn 45 = .ok (.iload_n 3, 1) := by decide +kernel
theorem dX0_leadBurnsOn_46 : decode cX0_leadBurnsOn 46 = .ok (.iconst 5, 1) := by decide +kernel
theorem dX0_leadBurnsOn_47 : decode cX0_leadBurnsOn 47 = .ok (.if_icmp .ge 33, 3) := by decide +kernel
theorem dX0_leadBurnsOn_50 : decode cX0_leadBurnsOn 50 = .ok (.aload_n 0, 1) := by decide +kernel
theorem dX0_leadBurnsOn_51 : decode cX0_leadBurnsOn 51 = .ok (.getfield 39, 3) := by decide +kernel
theorem dX0_leadBurnsOn_54 : decode cX0_leadBurnsOn 54 = .ok (.iload_n 1, 1) := by decide +kernel
theorem dX0_leadBurnsOn_55 : decode cX0_leadBurnsOn 55 = .ok (.iload_n 3, 1) := by decide +kernel
theorem dX0_leadBurnsOn_56 : decode cX0_leadBurnsOn 56 = .ok (.invokestatic 89, 3) := by decide +kernel
theorem dX0_leadBurnsOn_59 : decode cX0_leadBurnsOn 59 = .ok (.iload_n 2, 1) := by decide +kernel
theorem dX0_leadBurnsOn_60 : decode cX0_leadBurnsOn 60 = .ok (.invokestatic 67, 3) := by decide +kernel
theorem dX0_leadBurnsOn_63 : decode cX0_leadBurnsOn 63 = .ok (.aload_n 0, 1) := by decide +kernel
theorem dX0_leadBurnsOn_64 : decode cX0_leadBurnsOn 64 = .ok (.getfield 39, 3) := by decide +kernel
theorem dX0_leadBurnsOn_67 : decode cX0_leadBurnsOn 67 = .ok (.iload_n 1, 1) := by decide +kernel
theorem dX0_leadBurnsOn_68 : decode cX0_leadBurnsOn 68 = .ok (.iload_n 3, 1) := by decide +kernel
theorem dX0_leadBurnsOn_69 : decode cX0_leadBurnsOn 69 = .ok (.invokestatic 89, 3) := by decide +kernel
theorem dX0_leadBurnsOn_72 : decode cX0_leadBurnsOn 72 = .ok (.iaload, 1) := by decide +kernel
theorem dX0_leadBurnsOn_73 : decode cX0_leadBurnsOn 73 = .ok (.istore_n 2, 1) := by decide +kernel
theorem dX0_leadBurnsOn_74 : decode cX0_leadBurnsOn 74 = .ok (.iinc 3 1, 3) := by decide +kernel
theorem dX0_leadBurnsOn_77 : decode cX0_leadBurnsOn 77 = .ok (.goto (-32), 3) := by decide +kernel
theorem dX0_leadBurnsOn_80 : decode cX0_leadBurnsOn 80 = .ok (.return_, 1) := by decide +kernel
theorem dX0_leadWindsOn_0 : decode cX0_leadWindsOn 0 = .ok (.iconst 0, 1) := by decide +kernel
theorem dX0_leadWindsOn_1 : decode cX0_leadWindsOn 1 = .ok (.istore_n 1, 1) := by decide +kernel
theorem dX0_leadWindsOn_2 : decode cX0_leadWindsOn 2 = .ok (.iload_n 1, 1) := by decide +kernel
theorem dX0_leadWindsOn_3 : decode cX0_leadWindsOn 3 = .ok (.iconst 3, 1) := by decide +kernel
theorem dX0_leadWindsOn_4 : decode cX0_leadWindsOn 4 = .ok (.if_icmp .ge 71, 3) := by decide +kernel
theorem dX0_leadWindsOn_7 : decode cX0_leadWindsOn 7 = .ok (.iconst 0, 1) := by decide +kernel
theorem dX0_leadWindsOn_8 : decode cX0_leadWindsOn 8 = .ok (.istore_n 2, 1) := by decide +kernel
theorem dX0_leadWindsOn_9 : decode cX0_leadWindsOn 9 = .ok (.iload_n 2, 1) := by decide +kernel
theorem dX0_leadWindsOn_10 : decode cX0_leadWindsOn 10 = .ok (.aload_n 0, 1) := by decide +kernel
theorem dX0_leadWindsOn_11 : decode cX0_leadWindsOn 11 = .ok (.getfield 54, 3) := by decide +kernel
theorem dX0_leadWindsOn_14 : decode cX0_leadWindsOn 14 = .ok (.if_icmp .ge 55, 3) := by decide +kernel
theorem dX0_leadWindsOn_17 : decode cX0_leadWindsOn 17 = .ok (.iconst 0, 1) := by decide +kernel
theorem dX0_leadWindsOn_18 : decode cX0_leadWindsOn 18 = .ok (.istore_n 3, 1) := by decide +kernel
theorem dX0_leadWindsOn_19 : decode cX0_leadWindsOn 19 = .ok (.iconst 0, 1) := by decide +kernel
theorem dX0_leadWindsOn_20 : decode cX0_leadWindsOn 20 = .ok (.istore 4, 2) := by decide +kernel
theorem dX0_leadWindsOn_22 : decode cX0_leadWindsOn 22 = .ok (.iload 4, 2) := by decide +kernel
theorem dX0_leadWindsOn_24 : decode cX0_leadWindsOn 24 = .ok (.bipush 6, 2) := by decide +kernel
theorem dX0_leadWindsOn_26 : decode cX0_leadWindsOn 26 = .ok (.if_icmp .ge 37, 3) := by decide +kernel
theorem dX0_leadWindsOn_29 : decode cX0_leadWindsOn 29 = .ok (.aload_n 0, 1) := by decide +kernel
theorem dX0_leadWindsOn_30 : decode cX0_leadWindsOn 30 = .ok (.getfield 36, 3) := by decide +kernel
theorem dX0_leadWindsOn_33 : decode cX0_leadWindsOn 33 = .ok (.iload_n 1, 1) := by decide +kernel
theorem dX0_leadWindsOn_34 : decode cX0_leadWindsOn 34 = .ok (.iload 4, 2) := by decide +kernel
theorem dX0_leadWindsOn_36 : decode cX0_leadWindsOn 36 = .ok (.iload_n 2, 1) := by decide +kernel
theorem dX0_leadWindsOn_37 : decode cX0_leadWindsOn 37 = .ok (.invokestatic 92, 3) := by decide +kernel
theorem dX0_leadWindsOn_40 : decode cX0_leadWindsOn 40 = .ok (.iload_n 3, 1) := by decide +kernel
theorem dX0_leadWindsOn_41 : decode cX0_leadWindsOn 41 = .ok (.invokestatic 67, 3) := by decide +kernel
theorem dX0_leadWindsOn_44 : decode cX0_leadWindsOn 44 = .ok (.aload_n 0, 1) := by decide +kernel
theorem dX0_leadWindsOn_45 : decode cX0_leadWindsOn 45 = .ok (.getfield 36, 3) := by decide +kernel
theorem dX0_leadWindsOn_48 : decode cX0_leadWindsOn 48 = .ok (.iload_n 1, 1) := by decide +kernel
theorem dX0_leadWindsOn_49 : decode cX0_leadWindsOn 49 = .ok (.iload 4, 2) := by decide +kernel
theorem dX0_leadWindsOn_51 : decode cX0_leadWindsOn 51 = .ok (.iload_n 2, 1) := by decide +kernel
theorem dX0_leadWindsOn_52 : decode cX0_leadWindsOn 52 = .ok (.invokestatic 92, 3) := by decide +kernel
theorem dX0_leadWindsOn_55 : decode cX0_leadWindsOn 55 = .ok (.iaload, 1) := by decide +kernel
theorem dX0_leadWindsOn_56 : decode cX0_leadWindsOn 56 = .ok (.istore_n 3, 1) := by decide +kernel
theorem dX0_leadWindsOn_57 : decode cX0_leadWindsOn 57 = .ok (.iinc 4 1, 3) := by decide +kernel
theorem dX0_leadWindsOn_60 : decode cX0_leadWindsOn 60 = .ok (.goto (-38), 3) := by decide +kernel
theorem dX0_leadWindsOn_63 : decode cX0_leadWindsOn 63 = .ok (.iinc 2 1, 3) := by decide +kernel
theorem dX0_leadWindsOn_66 : decode cX0_leadWindsOn 66 = .ok (.goto (-57), 3) := by decide +kernel
theorem dX0_leadWindsOn_69 : decode cX0_leadWindsOn 69 = .ok (.iinc 1 1, 3) := by decide +kernel
theorem dX0_leadWindsOn_72 : decode cX0_leadWindsOn 72 = .ok (.goto (-70), 3) := by decide +kernel
theorem dX0_leadWindsOn_75 : decode cX0_leadWindsOn 75 = .ok (.return_, 1) := by decide +kernel
theorem dX0_putIfUntold_0 : decode cX0_putIfUntold 0 = .ok (.iload_n 1, 1) := by decide +kernel
theorem dX0_putIfUntold_1 : decode cX0_putIfUntold 1 = .ok (.ifCond .lt 22, 3) := by decide +kernel
theorem dX0_putIfUntold_4 : decode cX0_putIfUntold 4 = .ok (.iload_n 1, 1) := by decide +kernel
theorem dX0_putIfUntold_5 : decode cX0_putIfUntold 5 = .ok (.aload_n 0, 1) := by decide +kernel
theorem dX0_putIfUntold_6 : decode cX0_putIfUntold 6 = .ok (.arraylength, 1) := by decide +kernel
theorem dX0_putIfUntold_7 : decode cX0_putIfUntold 7 = .ok (.if_icmp .ge 16, 3) := by decide +kernel
theorem dX0_putIfUntold_10 : decode cX0_putIfUntold 10 = .ok (.aload_n 0, 1) := by decide +kernel
theorem dX0_putIfUntold_11 : decode cX0_putIfUntold 11 = .ok (.iload_n 1, 1) := by decide +kernel
theorem dX0_putIfUntold_12 : decode cX0_putIfUntold 12 = .ok (.iaload, 1) := by decide +kernel
theorem dX0_putIfUntold_13 : decode cX0_putIfUntold 13 = .ok (.sipush (-1000), 3) := by decide +kernel
theorem dX0_putIfUntold_16 : decode cX0_putIfUntold 16 = .ok (.if_icmp .ne 7, 3) := by decide +kernel
theorem dX0_putIfUntold_19 : decode cX0_putIfUntold 19 = .ok (.aload_n 0, 1) := by decide +kernel
theorem dX0_putIfUntold_20 : decode cX0_putIfUntold 20 = .ok (.iload_n 1, 1) := by decide +kernel
theorem dX0_putIfUntold_21 : decode cX0_putIfUntold 21 = .ok (.iload_n 2, 1) := by decide +kernel
theorem dX0_putIfUntold_22 : decode cX0_putIfUntold 22 = .ok (.iastore, 1) := by decide +kernel
theorem dX0_putIfUntold_23 : decode cX0_putIfUntold 23 = .ok (.return_, 1) := by decide +kernel
theorem dX0_copy_0 : decode cX0_copy 0 = .ok (.aload_n 0, 1) := by decide +kernel
theorem dX0_copy_1 : decode cX0_copy 1 = .ok (.iconst 0, 1) := by decide +kernel
theorem dX0_copy_2 : decode cX0_copy 2 = .ok (.aload_n 1, 1) := by decide +kernel
theorem dX0_copy_3 : decode cX0_copy 3 = .ok (.iconst 0, 1) := by decide +kernel
theorem dX0_copy_4 : decode cX0_copy 4 = .ok (.aload_n 0, 1) := by decide +kernel
theorem dX0_copy_5 : decode cX0_copy 5 = .ok (.arraylength, 1) := by decide +kernel
theorem dX0_copy_6 : decode cX0_copy 6 = .ok (.aload_n 1, 1) := by decide +kernel
theorem dX0_copy_7 : decode cX0_copy 7 = .ok (.arraylength, 1) := by decide +kernel
theorem dX0_copy_8 : decode cX0_copy 8 = .ok (.invokestatic 96, 3) := by decide +kernel
theorem dX0_copy_11 : decode cX0_copy 11 = .ok (.invokestatic 99, 3) := by decide +kernel
theorem dX0_copy_14 : decode cX0_copy 14 = .ok (.return_, 1) := by decide +kernel
theorem dX1_init_0 : decode cX1_init 0 = .ok (.aload_n 0, 1) := by decide +kernel
theorem dX1_init_1 : decode cX1_init 1 = .ok (.invokespecial 3, 3) := by decide +kernel
theorem dX1_init_4 : decode cX1_init 4 = .ok (.aload_n 0, 1) := by decide +kernel
theorem dX1_init_5 : decode cX1_init 5 = .ok (.aload_n 1, 1) := by decide +kernel
theorem dX1_init_6 : decode cX1_init 6 = .ok (.putfield 9, 3) := by decide +kernel
theorem dX1_init_9 : decode cX1_init 9 = .ok (.return_, 1) := by decide +kernel
theorem dX1_set_0 : decode cX1_set 0 = .ok (.aload_n 0, 1) := by decide +kernel
theorem dX1_set_1 : decode cX1_set 1 = .ok (.iconst 1, 1) := by decide +kernel
theorem dX1_set_2 : decode cX1_set 2 = .ok (.putfield 15, 3) := by decide +kernel
theorem dX1_set_5 : decode cX1_set 5 = .ok (.aload_n 0, 1) := by decide +kernel
theorem dX1_set_6 : decode cX1_set 6 = .ok (.iload_n 1, 1) := by decide +kernel
theorem dX1_set_7 : decode cX1_set 7 = .ok (.putfield 19, 3) := by decide +kernel
theorem dX1_set_10 : decode cX1_set 10 = .ok (.aload_n 0, 1) := by decide +kernel
theorem dX1_set_11 : decode cX1_set 11 = .ok (.iload_n 2, 1) := by decide +kernel
theorem dX1_set_12 : decode cX1_set 12 = .ok (.putfield 23, 3) := by decide +kernel
theorem dX1_set_15 : decode cX1_set 15 = .ok (.aload_n 0, 1) := by decide +kernel
theorem dX1_set_16 : decode cX1_set 16 = .ok (.iload_n 3, 1) := by decide +kernel
theorem dX1_set_17 : decode cX1_set 17 = .ok (.putfield 26, 3) := by decide +kernel
theorem dX1_set_20 : decode cX1_set 20 = .ok (.aload_n 0, 1) := by decide +kernel
theorem dX1_set_21 : decode cX1_set 21 = .ok (.iload 5, 2) := by decide +kernel
theorem dX1_set_23 : decode cX1_set 23 = .ok (.putfield 29, 3) := by decide +kernel
theorem dX1_set_26 : decode cX1_set 26 = .ok (.aload_n 0, 1) := by decide +kernel
theorem dX1_set_27 : decode cX1_set 27 = .ok (.aload_n 0, 1) := by decide +kernel
theorem dX1_set_28 : decode cX1_set 28 = .ok (.getfield 9, 3) := by decide +kernel
theorem dX1_set_31 : decode cX1_set 31 = .ok (.getfield 32, 3) := by decide +kernel
theorem dX1_set_34 : decode cX1_set 34 = .ok (.iconst 3, 1) := by decide +kernel
theorem dX1_set_35 : decode cX1_set 35 = .ok (.iaload, 1) := by decide +kernel
theorem dX1_set_36 : decode cX1_set 36 = .ok (.iload 4, 2) := by decide +kernel
theorem dX1_set_38 : decode cX1_set 38 = .ok (.iadd, 1) := by decide +kernel
theorem dX1_set_39 : decode cX1_set 39 = .ok (.putfield 38, 3) := by decide +kernel
theorem dX1_set_42 : decode cX1_set 42 = .ok (.return_, 1) := by decide +kernel
theorem dX1_minutesOf_0 : decode cX1_minutesOf 0 = .ok (.iload_n 2, 1) := by decide +kernel
theorem dX1_minutesOf_1 : decode cX1_minutesOf 1 = .ok (.aload_n 0, 1) := by decide +kernel
theorem dX1_minutesOf_2 : decode cX1_minutesOf 2 = .ok (.getfield 9, 3) := by decide +kernel
theorem dX1_minutesOf_5 : decode cX1_minutesOf 5 = .ok (.getfield 41, 3) := by decide +kernel
theorem dX1_minutesOf_8 : decode cX1_minutesOf 8 = .ok (.iload_n 1, 1) := by decide +kernel
theorem dX1_minutesOf_9 : decode cX1_minutesOf 9 = .ok (.iaload, 1) := by decide +kernel
theorem dX1_minutesOf_10 : decode cX1_minutesOf 10 = .ok (.if_icmp .lt 52, 3) := by decide +kernel
theorem dX1_minutesOf_13 : decode cX1_minutesOf 13 = .ok (.iload_n 2, 1) := by decide +kernel
theorem dX1_minutesOf_14 : decode cX1_minutesOf 14 = .ok (.aload_n 0, 1) := by decide +kernel
theorem dX1_minutesOf_15 : decode cX1_minutesOf 15 = .ok (.getfield 9, 3) := by decide +kernel
theorem dX1_minutesOf_18 : decode cX1_minutesOf 18 = .ok (.getfield 44, 3) := by decide +kernel
theorem dX1_minutesOf_21 : decode cX1_minutesOf 21 = .ok (.iload_n 1, 1) := by decide +kernel
theorem dX1_minutesOf_22 : decode cX1_minutesOf 22 = .ok (.iaload, 1) := by decide +kernel
theorem dX1_minutesOf_23 : decode cX1_minutesOf 23 = .ok (.if_icmp .gt 39, 3) := by decide +kernel
theorem dX1_minutesOf_26 : decode cX1_minutesOf 26 = .ok (.aload_n 0, 1) := by decide +kernel
theorem dX1_minutesOf_27 : decode cX1_minutesOf 27 = .ok (.getfield 26, 3) := by decide +kernel
theorem dX1_minutesOf_30 : decode cX1_minutesOf 30 = .ok (.aload_n 0, 1) := by decide +kernel
theorem dX1_minutesOf_31 : decode cX1_minutesOf 31 = .ok (.getfield 9, 3) := by decide +kernel
theorem dX1_minutesOf_34 : decode cX1_minutesOf 34 = .ok (.getfield 47, 3) := by decide +kernel
theorem dX1_minutesOf_37 : decode cX1_minutesOf 37 = .ok (.iload_n 1, 1) := by decide +kernel
theorem dX1_minutesOf_38 : decode cX1_minutesOf 38 = .ok (.iaload, 1) := by decide +kernel
theorem dX1_minutesOf_39 : decode cX1_minutesOf 39 = .ok (.if_icmp .lt 23, 3) := by decide +kernel
theorem dX1_minutesOf_42 : decode cX1_minutesOf 42 = .ok (.aload_n 0, 1) := by decide +kernel
theorem dX1_minutesOf_43 : decode cX1_minutesOf 43 = .ok (.getfield 26, 3) := by decide +kernel
theorem dX1_minutesOf_46 : decode cX1_minutesOf 46 = .ok (.aload_n 0, 1) := by decide +kernel
theorem dX1_minutesOf_47 : decode cX1_minutesOf 47 = .ok (.getfield 9, 3) := by decide +kernel
theorem dX1_minutesOf_50 : decode cX1_minutesOf 50 = .ok (.getfield 50, 3) := by decide +kernel
theorem dX1_minutesOf_53 : decode cX1_minutesOf 53 = .ok (.iload_n 1, 1) := by decide +kernel
theorem dX1_minutesOf_54 : decode cX1_minutesOf 54 = .ok (.iaload, 1) := by decide +kernel
theorem dX1_minutesOf_55 : decode cX1_minutesOf 55 = .ok (.if_icmp .gt 7, 3) := by decide +kernel
theorem dX1_minutesOf_58 : decode cX1_minutesOf 58 = .ok (.iconst 1, 1) := by decide +kernel
theorem dX1_minutesOf_59 : decode cX1_minutesOf 59 = .ok (.goto 4, 3) := by decide +kernel
theorem dX1_minutesOf_62 : decode cX1_minutesOf 62 = .ok (.iconst 0, 1) := by decide +kernel
theorem dX1_minutesOf_63 : decode cX1_minutesOf 63 = .ok (.istore 4, 2) := by decide +kernel
theorem dX1_minutesOf_65 : decode cX1_minutesOf 65 = .ok (.aload_n 0, 1) := by decide +kernel
theorem dX1_minutesOf_66 : decode cX1_minutesOf 66 = .ok (.getfield 9, 3) := by decide +kernel
theorem dX1_minutesOf_69 : decode cX1_minutesOf 69 = .ok (.getfield 53, 3) := by decide +kernel
theorem dX1_minutesOf_72 : decode cX1_minutesOf 72 = .ok (.iload_n 2, 1) := by decide +kernel
theorem dX1_minutesOf_73 : decode cX1_minutesOf 73 = .ok (.iaload, 1) := by decide +kernel
theorem dX1_minutesOf_74 : decode cX1_minutesOf 74 = .ok (.aload_n 0, 1) := by decide +kernel
theorem dX1_minutesOf_75 : decode cX1_minutesOf 75 = .ok (.getfield 9, 3) := by decide +kernel
theorem dX1_minutesOf_78 : decode cX1_minutesOf 78 = .ok (.getfield 56, 3) := by decide +kernel
theorem dX1_minutesOf_81 : decode cX1_minutesOf 81 = .ok (.iload_n 3, 1) := by decide +kernel
theorem dX1_minutesOf_82 : decode cX1_minutesOf 82 = .ok (.iload_n 2, 1) := by decide +kernel
theorem dX1_minutesOf_83 : decode cX1_minutesOf 83 = .ok (.iload_n 1, 1) := by decide +kernel
theorem dX1_minutesOf_84 : decode cX1_minutesOf 84 = .ok (.invokestatic 59, 3) := by decide +kernel
theorem dX1_minutesOf_87 : decode cX1_minutesOf 87 = .ok (.iaload, 1) := by decide +kernel
theorem dX1_minutesOf_88 : decode cX1_minutesOf 88 = .ok (.iadd, 1) := by decide +kernel
theorem dX1_minutesOf_89 : decode cX1_minutesOf 89 = .ok (.istore 5, 2) := by decide +kernel
theorem dX1_minutesOf_91 : decode cX1_minutesOf 91 = .ok (.iload 4, 2) := by decide +kernel
theorem dX1_minutesOf_93 : decode cX1_minutesOf 93 = .ok (.ifCond .eq 10, 3) := by decide +kernel
theorem dX1_minutesOf_96 : decode cX1_minutesOf 96 = .ok (.iload 5, 2) := by decide +kernel
theorem dX1_minutesOf_98 : decode cX1_minutesOf 98 = .ok (.bipush 50, 2) := by decide +kernel
theorem dX1_minutesOf_100 : decode cX1_minutesOf 100 = .ok (.if_icmp .ge 5, 3) := by decide +kernel
theorem dX1_minutesOf_103 : decode cX1_minutesOf 103 = .ok (.iconst (-1), 1) := by decide +kernel
theorem dX1_minutesOf_104 : decode cX1_minutesOf 104 = .ok (.ireturn, 1) := by decide +kernel
theorem dX1_minutesOf_105 : decode cX1_minutesOf 105 = .ok (.aload_n 0, 1) := by decide +kernel
theorem dX1_minutesOf_106 : decode cX1_minutesOf 106 = .ok (.getfield 9, 3) := by decide +kernel
theorem dX1_minutesOf_109 : decode cX1_minutesOf 109 = .ok (.getfield 63, 3) := by decide +kernel
theorem dX1_minutesOf_112 : decode cX1_minutesOf 112 = .ok (.iload_n 1, 1) := by decide +kernel
theorem dX1_minutesOf_113 : decode cX1_minutesOf 113 = .ok (.iaload, 1) := by decide +kernel
theorem dX1_minutesOf_114 : decode cX1_minutesOf 114 = .ok (.bipush 60, 2) := by decide +kernel
theorem dX1_minutesOf_116 : decode cX1_minutesOf 116 = .ok (.imul, 1) := by decide +kernel
theorem dX1_minutesOf_117 : decode cX1_minutesOf 117 = .ok (.iload 5, 2) := by decide +kernel
theorem dX1_minutesOf_119 : decode cX1_minutesOf 119 = .ok (.iadd, 1) := by decide +kernel
theorem dX1_minutesOf_120 : decode cX1_minutesOf 120 = .ok (.iconst 1, 1) := by decide +kernel
theorem dX1_minutesOf_121 : decode cX1_minutesOf 121 = .ok (.isub, 1) := by decide +kernel
theorem dX1_minutesOf_122 : decode cX1_minutesOf 122 = .ok (.iload 5, 2) := by decide +kernel
theorem dX1_minutesOf_124 : decode cX1_minutesOf 124 = .ok (.idiv, 1) := by decide +kernel
theorem dX1_minutesOf_125 : decode cX1_minutesOf 125 = .ok (.ireturn, 1) := by decide +kernel
theorem dX1_fuelOf_0 : decode cX1_fuelOf 0 = .ok (.aload_n 0, 1) := by decide +kernel
theorem dX1_fuelOf_1 : decode cX1_fuelOf 1 = .ok (.getfield 38, 3) := by decide +kernel
theorem dX1_fuelOf_4 : decode cX1_fuelOf 4 = .ok (.iload_n 3, 1) := by decide +kernel
theorem dX1_fuelOf_5 : decode cX1_fuelOf 5 = .ok (.iadd, 1) := by decide +kernel
theorem dX1_fuelOf_6 : decode cX1_fuelOf 6 = .ok (.sipush 1000, 3) := by decide +kernel
theorem dX1_fuelOf_9 : decode cX1_fuelOf 9 = .ok (.idiv, 1) := by decide +kernel
theorem dX1_fuelOf_10 : decode cX1_fuelOf 10 = .ok (.iconst 4, 1) := by decide +kernel
theorem dX1_fuelOf_11 : decode cX1_fuelOf 11 = .ok (.invokestatic 66, 3) := by decide +kernel
theorem dX1_fuelOf_14 : decode cX1_fuelOf 14 = .ok (.istore 4, 2) := by decide +kernel
theorem dX1_fuelOf_16 : decode cX1_fuelOf 16 = .ok (.iload_n 1, 1) := by decide +kernel
theorem dX1_fuelOf_17 : decode cX1_fuelOf 17 = .ok (.aload_n 0, 1) := by decide +kernel
theorem dX1_fuelOf_18 : decode cX1_fuelOf 18 = .ok (.getfield 9, 3) := by decide +kernel
theorem dX1_fuelOf_21 : decode cX1_fuelOf 21 = .ok (.getfield 72, 3) := by decide +kernel
theorem dX1_fuelOf_24 : decode cX1_fuelOf 24 = .ok (.iload_n 2, 1) := by decide +kernel
theorem dX1_fuelOf_25 : decode cX1_fuelOf 25 = .ok (.iload 4, 2) := by decide +kernel
theorem dX1_fuelOf_27 : decode cX1_fuelOf 27 = .ok (.invokestatic 75, 3) := by decide +kernel
theorem dX1_fuelOf_30 : decode cX1_fuelOf 30 = .ok (.iaload, 1) := by decide +kernel
theorem dX1_fuelOf_31 : decode cX1_fuelOf 31 = .ok (.imul, 1) := by decide +kernel
theorem dX1_fuelOf_32 : decode cX1_fuelOf 32 = .ok (.bipush 59, 2) := by decide +kernel
theorem dX1_fuelOf_34 : decode cX1_fuelOf 34 = .ok (.iadd, 1) := by decide +kernel
theorem dX1_fuelOf_35 : decode cX1_fuelOf 35 = .ok (.bipush 60, 2) := by decide +kernel
theorem dX1_fuelOf_37 : decode cX1_fuelOf 37 = .ok (.idiv, 1) := by decide +kernel
theorem dX1_fuelOf_38 : decode cX1_fuelOf 38 = .ok (.ireturn, 1) := by decide +kernel
theorem dX1_greatestLeft_0 : decode cX1_greatestLeft 0 = .ok (.iconst 4, 1) := by decide +kernel
theorem dX1_greatestLeft_1 : decode cX1_greatestLeft 1 = .ok (.istore 4, 2) := by decide +kernel
theorem dX1_greatestLeft_3 : decode cX1_greatestLeft 3 = .ok (.iload 4, 2) := by decide +kernel
theorem dX1_greatestLeft_5 : decode cX1_greatestLeft 5 = .ok (.ifCond .lt 80, 3) := by decide +kernel
theorem dX1_greatestLeft_8 : decode cX1_greatestLeft 8 = .ok (.iconst 0, 1) := by decide +kernel
theorem dX1_greatestLeft_9 : decode cX1_greatestLeft 9 = .ok (.iload 4, 2) := by decide +kernel
theorem dX1_greatestLeft_11 : decode cX1_greatestLeft 11 = .ok (.sipush 1000, 3) := by decide +kernel
theorem dX1_greatestLeft_14 : decode cX1_greatestLeft 14 = .ok (.imul, 1) := by decide +kernel
theorem dX1_greatestLeft_15 : decode cX1_greatestLeft 15 = .ok (.aload_n 0, 1) := by decide +kernel
theorem dX1_greatestLeft_16 : decode cX1_greatestLeft 16 = .ok (.getfield 38, 3) := by decide +kernel
theorem dX1_greatestLeft_19 : decode cX1_greatestLeft 19 = .ok (.isub, 1) := by decide +kernel
theorem dX1_greatestLeft_20 : decode cX1_greatestLeft 20 = .ok (.invokestatic 78, 3) := by decide +kernel
theorem dX1_greatestLeft_23 : decode cX1_greatestLeft 23 = .ok (.istore 5, 2) := by decide +kernel
theorem dX1_greatestLeft_25 : decode cX1_greatestLeft 25 = .ok (.iload 4, 2) := by decide +kernel
theorem dX1_greatestLeft_27 : decode cX1_greatestLeft 27 = .ok (.iconst 4, 1) := by decide +kernel
theorem dX1_greatestLeft_28 : decode cX1_greatestLeft 28 = .ok (.if_icmp .ne 7, 3) := by decide +kernel
theorem dX1_greatestLeft_31 : decode cX1_greatestLeft 31 = .ok (.iload_n 3, 1) := by decide +kernel
theorem dX1_greatestLeft_32 : decode cX1_greatestLeft 32 = .ok (.goto 18, 3) := by decide +kernel
theorem dX1_greatestLeft_35 : decode cX1_greatestLeft 35 = .ok (.iload 4, 2) := by decide +kernel
theorem dX1_greatestLeft_37 : decode cX1_greatestLeft 37 = .ok (.iconst 1, 1) := by decide +kernel
theorem dX1_greatestLeft_38 : decode cX1_greatestLeft 38 = .ok (.iadd, 1) := by decide +kernel
theorem dX1_greatestLeft_39 : decode cX1_greatestLeft 39 = .ok (.sipush 1000, 3) := by decide +kernel
theorem dX1_greatestLeft_42 : decode cX1_greatestLeft 42 = .ok (.imul, 1) := by decide +kernel
theorem dX1_greatestLeft_43 : decode cX1_greatestLeft 43 = .ok (.iconst 1, 1) := by decide +kernel
theorem dX1_greatestLeft_44 : decode cX1_greatestLeft 44 = .ok (.isub, 1) := by decide +kernel
theorem dX1_greatestLeft_45 : decode cX1_greatestLeft 45 = .ok (.aload_n 0, 1) := by decide +kernel
theorem dX1_greatestLeft_46 : decode cX1_greatestLeft 46 = .ok (.getfield 38, 3) := by decide +kernel
theorem dX1_greatestLeft_49 : decode cX1_greatestLeft 49 = .ok (.isub, 1) := by decide +kernel
theorem dX1_greatestLeft_50 : decode cX1_greatestLeft 50 = .ok (.istore 6, 2) := by decide +kernel
theorem dX1_greatestLeft_52 : decode cX1_greatestLeft 52 = .ok (.iload 6, 2) := by decide +kernel
theorem dX1_greatestLeft_54 : decode cX1_greatestLeft 54 = .ok (.iload_n 3, 1) := by decide +kernel
theorem dX1_greatestLeft_55 : decode cX1_greatestLeft 55 = .ok (.aload_n 0, 1) := by decide +kernel
theorem dX1_greatestLeft_56 : decode cX1_greatestLeft 56 = .ok (.iload_n 1, 1) := by decide +kernel
theorem dX1_greatestLeft_57 : decode cX1_greatestLeft 57 = .ok (.iload_n 2, 1) := by decide +kernel
theorem dX1_greatestLeft_58 : decode cX1_greatestLeft 58 = .ok (.iload 5, 2) := by decide +kernel
theorem dX1_greatestLeft_60 : decode cX1_greatestLeft 60 = .ok (.invokevirtual 81, 3) := by decide +kernel
theorem dX1_greatestLeft_63 : decode cX1_greatestLeft 63 = .ok (.isub, 1) := by decide +kernel
theorem dX1_greatestLeft_64 : decode cX1_greatestLeft 64 = .ok (.invokestatic 66, 3) := by decide +kernel
theorem dX1_greatestLeft_67 : decode cX1_greatestLeft 67 = .ok (.istore 7, 2) := by decide +kernel
theorem dX1_greatestLeft_69 : decode cX1_greatestLeft 69 = .ok (.iload 7, 2) := by decide +kernel
theorem dX1_greatestLeft_71 : decode cX1_greatestLeft 71 = .ok (.iload 5, 2) := by decide +kernel
theorem dX1_greatestLeft_73 : decode cX1_greatestLeft 73 = .ok (.if_icmp .lt 6, 3) := by decide +kernel
theorem dX1_greatestLeft_76 : decode cX1_greatestLeft 76 = .ok (.iload 7, 2) := by decide +kernel
theorem dX1_greatestLeft_78 : decode cX1_greatestLeft 78 = .ok (.ireturn, 1) := by decide +kernel
theorem dX1_greatestLeft_79 : decode cX1_greatestLeft 79 = .ok (.iinc 4 (-1), 3) := by decide +kernel
theorem dX1_greatestLeft_82 : decode cX1_greatestLeft 82 = .ok (.goto (-79), 3) := by decide +kernel
theorem dX1_greatestLeft_85 : decode cX1_greatestLeft 85 = .ok (.iconst 0, 1) := by decide +kernel
theorem dX1_greatestLeft_86 : decode cX1_greatestLeft 86 = .ok (.ireturn, 1) := by decide +kernel
theorem dX1_brokenLaw_0 : decode cX1_brokenLaw 0 = .ok (.iload_n 1, 1) := by decide +kernel
theorem dX1_brokenLaw_1 : decode cX1_brokenLaw 1 = .ok (.aload_n 0, 1) := by decide +kernel
theorem dX1_brokenLaw_2 : decode cX1_brokenLaw 2 = .ok (.getfield 9, 3) := by decide +kernel
theorem dX1_brokenLaw_5 : decode cX1_brokenLaw 5 = .ok (.getfield 32, 3) := by decide +kernel
theorem dX1_brokenLaw_8 : decode cX1_brokenLaw 8 = .ok (.iconst 0, 1) := by decide +kernel
theorem dX1_brokenLaw_9 : decode cX1_brokenLaw 9 = .ok (.iaload, 1) := by decide +kernel
theorem dX1_brokenLaw_10 : decode cX1_brokenLaw 10 = .ok (.if_icmp .le 5, 3) := by decide +kernel
theorem dX1_brokenLaw_13 : decode cX1_brokenLaw 13 = .ok (.iconst 1, 1) := by decide +kernel
theorem dX1_brokenLaw_14 : decode cX1_brokenLaw 14 = .ok (.ireturn, 1) := by decide +kernel
theorem dX1_brokenLaw_15 : decode cX1_brokenLaw 15 = .ok (.aload_n 0, 1) := by decide +kernel
theorem dX1_brokenLaw_16 : decode cX1_brokenLaw 16 = .ok (.getfield 38, 3) := by decide +kernel
theorem dX1_brokenLaw_19 : decode cX1_brokenLaw 19 = .ok (.iload_n 1, 1) := by decide +kernel
theorem dX1_brokenLaw_20 : decode cX1_brokenLaw 20 = .ok (.iadd, 1) := by decide +kernel
theorem dX1_brokenLaw_21 : decode cX1_brokenLaw 21 = .ok (.aload_n 0, 1) := by decide +kernel
theorem dX1_brokenLaw_22 : decode cX1_brokenLaw 22 = .ok (.getfield 9, 3) := by decide +kernel
theorem dX1_brokenLaw_25 : decode cX1_brokenLaw 25 = .ok (.getfield 32, 3) := by decide +kernel
theorem dX1_brokenLaw_28 : decode cX1_brokenLaw 28 = .ok (.iconst 1, 1) := by decide +kernel
theorem dX1_brokenLaw_29 : decode cX1_brokenLaw 29 = .ok (.iaload, 1) := by decide +kernel
theorem dX1_brokenLaw_30 : decode cX1_brokenLaw 30 = .ok (.if_icmp .le 5, 3) := by decide +kernel
theorem dX1_brokenLaw_33 : decode cX1_brokenLaw 33 = .ok (.iconst 2, 1) := by decide +kernel
theorem dX1_brokenLaw_34 : decode cX1_brokenLaw 34 = .ok (.ireturn, 1) := by decide +kernel
theorem dX1_brokenLaw_35 : decode cX1_brokenLaw 35 = .ok (.aload_n 0, 1) := by decide +kernel
theorem dX1_brokenLaw_36 : decode cX1_brokenLaw 36 = .ok (.getfield 38, 3) := by decide +kernel
theorem dX1_brokenLaw_39 : decode cX1_brokenLaw 39 = .ok (.iload_n 2, 1) := by decide +kernel
theorem dX1_brokenLaw_40 : decode cX1_brokenLaw 40 = .ok (.iadd, 1) := by decide +kernel
theorem dX1_brokenLaw_41 : decode cX1_brokenLaw 41 = .ok (.aload_n 0, 1) := by decide +kernel
theorem dX1_brokenLaw_42 : decode cX1_brokenLaw 42 = .ok (.getfield 9, 3) := by decide +kernel
theorem dX1_brokenLaw_45 : decode cX1_brokenLaw 45 = .ok (.getfield 32, 3) := by decide +kernel
theorem dX1_brokenLaw_48 : decode cX1_brokenLaw 48 = .ok (.iconst 2, 1) := by decide +kernel
theorem dX1_brokenLaw_49 : decode cX1_brokenLaw 49 = .ok (.iaload, 1) := by decide +kernel
theorem dX1_brokenLaw_50 : decode cX1_brokenLaw 50 = .ok (.if_icmp .le 7, 3) := by decide +kernel
theorem dX1_brokenLaw_53 : decode cX1_brokenLaw 53 = .ok (.iconst 3, 1) := by decide +kernel
theorem dX1_brokenLaw_54 : decode cX1_brokenLaw 54 = .ok (.goto 4, 3) := by decide +kernel
theorem dX1_brokenLaw_57 : decode cX1_brokenLaw 57 = .ok (.iconst 0, 1) := by decide +kernel
theorem dX1_brokenLaw_58 : decode cX1_brokenLaw 58 = .ok (.ireturn, 1) := by decide +kernel
theorem dX2_init_0 : decode cX2_init 0 = .ok (.aload_n 0, 1) := by decide +kernel
theorem dX2_init_1 : decode cX2_init 1 = .ok (.invokespecial 3, 3) := by decide +kernel
theorem dX2_init_4 : decode cX2_init 4 = .ok (.aload_n 0, 1) := by decide +kernel
theorem dX2_init_5 : decode cX2_init 5 = .ok (.new 9, 3) := by decide +kernel
theorem dX2_init_8 : decode cX2_init 8 = .ok (.dup, 1) := by decide +kernel
theorem dX2_init_9 : decode cX2_init 9 = .ok (.invokespecial 11, 3) := by decide +kernel
theorem dX2_init_12 : decode cX2_init 12 = .ok (.putfield 12, 3) := by decide +kernel
theorem dX2_init_15 : decode cX2_init 15 = .ok (.aload_n 0, 1) := by decide +kernel
theorem dX2_init_16 : decode cX2_init 16 = .ok (.bipush 96, 2) := by decide +kernel
theorem dX2_init_18 : decode cX2_init 18 = .ok (.newarray .int, 2) := by decide +kernel
theorem dX2_init_20 : decode cX2_init 20 = .ok (.putfield 18, 3) := by decide +kernel
theorem dX2_init_23 : decode cX2_init 23 = .ok (.aload_n 0, 1) := by decide +kernel
theorem dX2_init_24 : decode cX2_init 24 = .ok (.bipush 70, 2) := by decide +kernel
theorem dX2_init_26 : decode cX2_init 26 = .ok (.newarray .int, 2) := by decide +kernel
theorem dX2_init_28 : decode cX2_init 28 = .ok (.putfield 22, 3) := by decide +kernel
theorem dX2_init_31 : decode cX2_init 31 = .ok (.aload_n 0, 1) := by decide +kernel
theorem dX2_init_32 : decode cX2_init 32 = .ok (.bipush 70, 2) := by decide +kernel
theorem dX2_init_34 : decode cX2_init 34 = .ok (.newarray .int, 2) := by decide +kernel
theorem dX2_init_36 : decode cX2_init 36 = .ok (.putfield 25, 3) := by decide +kernel
theorem dX2_init_39 : decode cX2_init 39 = .ok (.aload_n 0, 1) := by decide +kernel
theorem dX2_init_40 : decode cX2_init 40 = .ok (.sipush 501, 3) := by decide +kernel
theorem dX2_init_43 : decode cX2_init 43 = .ok (.newarray .int, 2) := by decide +kernel
theorem dX2_init_45 : decode cX2_init 45 = .ok (.putfield 28, 3) := by decide +kernel
theorem dX2_init_48 : decode cX2_init 48 = .ok (.aload_n 0, 1) := by decide +kernel
theorem dX2_init_49 : decode cX2_init 49 = .ok (.aload_n 1, 1) := by decide +kernel
theorem dX2_init_50 : decode cX2_init 50 = .ok (.putfield 31, 3) := by decide +kernel
theorem dX2_init_53 : decode cX2_init 53 = .ok (.aload_n 0, 1) := by decide +kernel
theorem dX2_init_54 : decode cX2_init 54 = .ok (.aload_n 2, 1) := by decide +kernel
theorem dX2_init_55 : decode cX2_init 55 = .ok (.putfield 35, 3) := by decide +kernel
theorem dX2_init_58 : decode cX2_init 58 = .ok (.aload_n 0, 1) := by decide +kernel
theorem dX2_init_59 : decode cX2_init 59 = .ok (.iload_n 3, 1) := by decide +kernel
theorem dX2_init_60 : decode cX2_init 60 = .ok (.putfield 39, 3) := by decide +kernel
theorem dX2_init_63 : decode cX2_init 63 = .ok (.return_, 1) := by decide +kernel
theorem dX2_forget_0 : decode cX2_forget 0 = .ok (.aload_n 0, 1) := by decide +kernel
theorem dX2_forget_1 : decode cX2_forget 1 = .ok (.iconst 0, 1) := by decide +kernel
theorem dX2_forget_2 : decode cX2_forget 2 = .ok (.putfield 43, 3) := by decide +kernel
theorem dX2_forget_5 : decode cX2_forget 5 = .ok (.aload_n 0, 1) := by decide +kernel
theorem dX2_forget_6 : decode cX2_forget 6 = .ok (.iconst 0, 1) := by decide +kernel
theorem dX2_forget_7 : decode cX2_forget 7 = .ok (.putfield 47, 3) := by decide +kernel
theorem dX2_forget_10 : decode cX2_forget 10 = .ok (.aload_n 0, 1) := by decide +kernel
theorem dX2_forget_11 : decode cX2_forget 11 = .ok (.iconst 0, 1) := by decide +kernel
theorem dX2_forget_12 : decode cX2_forget 12 = .ok (.putfield 50, 3) := by decide +kernel
theorem dX2_forget_15 : decode cX2_forget 15 = .ok (.aload_n 0, 1) := by decide +kernel
theorem dX2_forget_16 : decode cX2_forget 16 = .ok (.iconst 0, 1) := by decide +kernel
theorem dX2_forget_17 : decode cX2_forget 17 = .ok (.putfield 53, 3) := by decide +kernel
theorem dX2_forget_20 : decode cX2_forget 20 = .ok (.return_, 1) := by decide +kernel
theorem dX2_prepare_0 : decode cX2_prepare 0 = .ok (.aload_n 0, 1) := by decide +kernel
theorem dX2_prepare_1 : decode cX2_prepare 1 = .ok (.getfield 47, 3) := by decide +kernel
theorem dX2_prepare_4 : decode cX2_prepare 4 = .ok (.ifCond .eq 4, 3) := by decide +kernel
theorem dX2_prepare_7 : decode cX2_prepare 7 = .ok (.return_, 1) := by decide +kernel
theorem dX2_prepare_8 : decode cX2_prepare 8 = .ok (.aload_n 0, 1) := by decide +kernel
