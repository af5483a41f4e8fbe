theorem dX4_scanLine_8 : decode cX4_scanLine 8 = .ok (.bipush 12, 2) := by decide +kernel
theorem dX4_scanLine_10 : decode cX4_scanLine 10 = .ok (.if_icmp .ge 60, 3) := by decide +kernel
theorem dX4_scanLine_13 : decode cX4_scanLine 13 = .ok (.aload_n 0, 1) := by decide +kernel
theorem dX4_scanLine_14 : decode cX4_scanLine 14 = .ok (.getfield 15, 3) := by decide +kernel
theorem dX4_scanLine_17 : decode cX4_scanLine 17 = .ok (.iload_n 1, 1) := by decide +kernel
theorem dX4_scanLine_18 : decode cX4_scanLine 18 = .ok (.aload_n 0, 1) := by decide +kernel
theorem dX4_scanLine_19 : decode cX4_scanLine 19 = .ok (.invokevirtual 32, 3) := by decide +kernel
theorem dX4_scanLine_22 : decode cX4_scanLine 22 = .ok (.iastore, 1) := by decide +kernel
theorem dX4_scanLine_23 : decode cX4_scanLine 23 = .ok (.aload_n 0, 1) := by decide +kernel
theorem dX4_scanLine_24 : decode cX4_scanLine 24 = .ok (.getfield 11, 3) := by decide +kernel
theorem dX4_scanLine_27 : decode cX4_scanLine 27 = .ok (.iload_n 1, 1) := by decide +kernel
theorem dX4_scanLine_28 : decode cX4_scanLine 28 = .ok (.aload_n 0, 1) := by decide +kernel
theorem dX4_scanLine_29 : decode cX4_scanLine 29 = .ok (.iload_n 1, 1) := by decide +kernel
theorem dX4_scanLine_30 : decode cX4_scanLine 30 = .ok (.invokevirtual 36, 3) := by decide +kernel
theorem dX4_scanLine_33 : decode cX4_scanLine 33 = .ok (.iastore, 1) := by decide +kernel
theorem dX4_scanLine_34 : decode cX4_scanLine 34 = .ok (.aload_n 0, 1) := by decide +kernel
theorem dX4_scanLine_35 : decode cX4_scanLine 35 = .ok (.iload_n 1, 1) := by decide +kernel
theorem dX4_scanLine_36 : decode cX4_scanLine 36 = .ok (.iconst 1, 1) := by decide +kernel
theorem dX4_scanLine_37 : decode cX4_scanLine 37 = .ok (.iadd, 1) := by decide +kernel
theorem dX4_scanLine_38 : decode cX4_scanLine 38 = .ok (.putfield 25, 3) := by decide +kernel
theorem dX4_scanLine_41 : decode cX4_scanLine 41 = .ok (.aload_n 0, 1) := by decide +kernel
theorem dX4_scanLine_42 : decode cX4_scanLine 42 = .ok (.getfield 11, 3) := by decide +kernel
theorem dX4_scanLine_45 : decode cX4_scanLine 45 = .ok (.iload_n 1, 1) := by decide +kernel
theorem dX4_scanLine_46 : decode cX4_scanLine 46 = .ok (.iaload, 1) := by decide +kernel
theorem dX4_scanLine_47 : decode cX4_scanLine 47 = .ok (.iconst 1, 1) := by decide +kernel
theorem dX4_scanLine_48 : decode cX4_scanLine 48 = .ok (.if_icmp .eq 16, 3) := by decide +kernel
theorem dX4_scanLine_51 : decode cX4_scanLine 51 = .ok (.aload_n 0, 1) := by decide +kernel
theorem dX4_scanLine_52 : decode cX4_scanLine 52 = .ok (.getfield 11, 3) := by decide +kernel
theorem dX4_scanLine_55 : decode cX4_scanLine 55 = .ok (.iload_n 1, 1) := by decide +kernel
theorem dX4_scanLine_56 : decode cX4_scanLine 56 = .ok (.iaload, 1) := by decide +kernel
theorem dX4_scanLine_57 : decode cX4_scanLine 57 = .ok (.iconst 2, 1) := by decide +kernel
theorem dX4_scanLine_58 : decode cX4_scanLine 58 = .ok (.if_icmp .eq 6, 3) := by decide +kernel
theorem dX4_scanLine_61 : decode cX4_scanLine 61 = .ok (.goto 9, 3) := by decide +kernel
theorem dX4_scanLine_64 : decode cX4_scanLine 64 = .ok (.iinc 1 1, 3) := by decide +kernel
theorem dX4_scanLine_67 : decode cX4_scanLine 67 = .ok (.goto (-60), 3) := by decide +kernel
theorem dX4_scanLine_70 : decode cX4_scanLine 70 = .ok (.return_, 1) := by decide +kernel
theorem dX4_isWord_0 : decode cX4_isWord 0 = .ok (.iload_n 1, 1) := by decide +kernel
theorem dX4_isWord_1 : decode cX4_isWord 1 = .ok (.ifCond .lt 34, 3) := by decide +kernel
theorem dX4_isWord_4 : decode cX4_isWord 4 = .ok (.iload_n 1, 1) := by decide +kernel
theorem dX4_isWord_5 : decode cX4_isWord 5 = .ok (.aload_n 0, 1) := by decide +kernel
theorem dX4_isWord_6 : decode cX4_isWord 6 = .ok (.getfield 25, 3) := by decide +kernel
theorem dX4_isWord_9 : decode cX4_isWord 9 = .ok (.if_icmp .ge 26, 3) := by decide +kernel
theorem dX4_isWord_12 : decode cX4_isWord 12 = .ok (.aload_n 0, 1) := by decide +kernel
theorem dX4_isWord_13 : decode cX4_isWord 13 = .ok (.getfield 11, 3) := by decide +kernel
theorem dX4_isWord_16 : decode cX4_isWord 16 = .ok (.iload_n 1, 1) := by decide +kernel
theorem dX4_isWord_17 : decode cX4_isWord 17 = .ok (.iaload, 1) := by decide +kernel
theorem dX4_isWord_18 : decode cX4_isWord 18 = .ok (.iconst 1, 1) := by decide +kernel
theorem dX4_isWord_19 : decode cX4_isWord 19 = .ok (.if_icmp .ne 16, 3) := by decide +kernel
theorem dX4_isWord_22 : decode cX4_isWord 22 = .ok (.aload_n 0, 1) := by decide +kernel
theorem dX4_isWord_23 : decode cX4_isWord 23 = .ok (.getfield 18, 3) := by decide +kernel
theorem dX4_isWord_26 : decode cX4_isWord 26 = .ok (.iload_n 1, 1) := by decide +kernel
theorem dX4_isWord_27 : decode cX4_isWord 27 = .ok (.iaload, 1) := by decide +kernel
theorem dX4_isWord_28 : decode cX4_isWord 28 = .ok (.aload_n 2, 1) := by decide +kernel
theorem dX4_isWord_29 : decode cX4_isWord 29 = .ok (.invokevirtual 40, 3) := by decide +kernel
theorem dX4_isWord_32 : decode cX4_isWord 32 = .ok (.if_icmp .eq 5, 3) := by decide +kernel
theorem dX4_isWord_35 : decode cX4_isWord 35 = .ok (.iconst 0, 1) := by decide +kernel
theorem dX4_isWord_36 : decode cX4_isWord 36 = .ok (.ireturn, 1) := by decide +kernel
theorem dX4_isWord_37 : decode cX4_isWord 37 = .ok (.iconst 0, 1) := by decide +kernel
theorem dX4_isWord_38 : decode cX4_isWord 38 = .ok (.istore_n 3, 1) := by decide +kernel
theorem dX4_isWord_39 : decode cX4_isWord 39 = .ok (.iload_n 3, 1) := by decide +kernel
theorem dX4_isWord_40 : decode cX4_isWord 40 = .ok (.aload_n 2, 1) := by decide +kernel
theorem dX4_isWord_41 : decode cX4_isWord 41 = .ok (.invokevirtual 40, 3) := by decide +kernel
theorem dX4_isWord_44 : decode cX4_isWord 44 = .ok (.if_icmp .ge 34, 3) := by decide +kernel
theorem dX4_isWord_47 : decode cX4_isWord 47 = .ok (.aload_n 0, 1) := by decide +kernel
theorem dX4_isWord_48 : decode cX4_isWord 48 = .ok (.getfield 21, 3) := by decide +kernel
theorem dX4_isWord_51 : decode cX4_isWord 51 = .ok (.aload_n 0, 1) := by decide +kernel
theorem dX4_isWord_52 : decode cX4_isWord 52 = .ok (.getfield 15, 3) := by decide +kernel
theorem dX4_isWord_55 : decode cX4_isWord 55 = .ok (.iload_n 1, 1) := by decide +kernel
theorem dX4_isWord_56 : decode cX4_isWord 56 = .ok (.iaload, 1) := by decide +kernel
theorem dX4_isWord_57 : decode cX4_isWord 57 = .ok (.iload_n 3, 1) := by decide +kernel
theorem dX4_isWord_58 : decode cX4_isWord 58 = .ok (.iadd, 1) := by decide +kernel
theorem dX4_isWord_59 : decode cX4_isWord 59 = .ok (.invokevirtual 45, 3) := by decide +kernel
theorem dX4_isWord_62 : decode cX4_isWord 62 = .ok (.aload_n 2, 1) := by decide +kernel
theorem dX4_isWord_63 : decode cX4_isWord 63 = .ok (.iload_n 3, 1) := by decide +kernel
theorem dX4_isWord_64 : decode cX4_isWord 64 = .ok (.invokevirtual 50, 3) := by decide +kernel
theorem dX4_isWord_67 : decode cX4_isWord 67 = .ok (.if_icmp .eq 5, 3) := by decide +kernel
theorem dX4_isWord_70 : decode cX4_isWord 70 = .ok (.iconst 0, 1) := by decide +kernel
theorem dX4_isWord_71 : decode cX4_isWord 71 = .ok (.ireturn, 1) := by decide +kernel
theorem dX4_isWord_72 : decode cX4_isWord 72 = .ok (.iinc 3 1, 3) := by decide +kernel
theorem dX4_isWord_75 : decode cX4_isWord 75 = .ok (.goto (-36), 3) := by decide +kernel
theorem dX4_isWord_78 : decode cX4_isWord 78 = .ok (.iconst 1, 1) := by decide +kernel
theorem dX4_isWord_79 : decode cX4_isWord 79 = .ok (.ireturn, 1) := by decide +kernel
theorem dX4_skipBlanks_0 : decode cX4_skipBlanks 0 = .ok (.aload_n 0, 1) := by decide +kernel
theorem dX4_skipBlanks_1 : decode cX4_skipBlanks 1 = .ok (.getfield 29, 3) := by decide +kernel
theorem dX4_skipBlanks_4 : decode cX4_skipBlanks 4 = .ok (.aload_n 0, 1) := by decide +kernel
theorem dX4_skipBlanks_5 : decode cX4_skipBlanks 5 = .ok (.getfield 21, 3) := by decide +kernel
theorem dX4_skipBlanks_8 : decode cX4_skipBlanks 8 = .ok (.getfield 54, 3) := by decide +kernel
theorem dX4_skipBlanks_11 : decode cX4_skipBlanks 11 = .ok (.if_icmp .ge 33, 3) := by decide +kernel
theorem dX4_skipBlanks_14 : decode cX4_skipBlanks 14 = .ok (.aload_n 0, 1) := by decide +kernel
theorem dX4_skipBlanks_15 : decode cX4_skipBlanks 15 = .ok (.getfield 21, 3) := by decide +kernel
theorem dX4_skipBlanks_18 : decode cX4_skipBlanks 18 = .ok (.aload_n 0, 1) := by decide +kernel
theorem dX4_skipBlanks_19 : decode cX4_skipBlanks 19 = .ok (.getfield 29, 3) := by decide +kernel
theorem dX4_skipBlanks_22 : decode cX4_skipBlanks 22 = .ok (.invokevirtual 45, 3) := by decide +kernel
theorem dX4_skipBlanks_25 : decode cX4_skipBlanks 25 = .ok (.invokestatic 56, 3) := by decide +kernel
theorem dX4_skipBlanks_28 : decode cX4_skipBlanks 28 = .ok (.ifCond .eq 16, 3) := by decide +kernel
theorem dX4_skipBlanks_31 : decode cX4_skipBlanks 31 = .ok (.aload_n 0, 1) := by decide +kernel
theorem dX4_skipBlanks_32 : decode cX4_skipBlanks 32 = .ok (.dup, 1) := by decide +kernel
theorem dX4_skipBlanks_33 : decode cX4_skipBlanks 33 = .ok (.getfield 29, 3) := by decide +kernel
theorem dX4_skipBlanks_36 : decode cX4_skipBlanks 36 = .ok (.iconst 1, 1) := by decide +kernel
theorem dX4_skipBlanks_37 : decode cX4_skipBlanks 37 = .ok (.iadd, 1) := by decide +kernel
theorem dX4_skipBlanks_38 : decode cX4_skipBlanks 38 = .ok (.putfield 29, 3) := by decide +kernel
theorem dX4_skipBlanks_41 : decode cX4_skipBlanks 41 = .ok (.goto (-41), 3) := by decide +kernel
theorem dX4_skipBlanks_44 : decode cX4_skipBlanks 44 = .ok (.aload_n 0, 1) := by decide +kernel
theorem dX4_skipBlanks_45 : decode cX4_skipBlanks 45 = .ok (.getfield 29, 3) := by decide +kernel
theorem dX4_skipBlanks_48 : decode cX4_skipBlanks 48 = .ok (.ireturn, 1) := by decide +kernel
theorem dX4_scanToken_0 : decode cX4_scanToken 0 = .ok (.aload_n 0, 1) := by decide +kernel
theorem dX4_scanToken_1 : decode cX4_scanToken 1 = .ok (.getfield 21, 3) := by decide +kernel
theorem dX4_scanToken_4 : decode cX4_scanToken 4 = .ok (.aload_n 0, 1) := by decide +kernel
theorem dX4_scanToken_5 : decode cX4_scanToken 5 = .ok (.getfield 29, 3) := by decide +kernel
theorem dX4_scanToken_8 : decode cX4_scanToken 8 = .ok (.invokevirtual 45, 3) := by decide +kernel
theorem dX4_scanToken_11 : decode cX4_scanToken 11 = .ok (.istore_n 2, 1) := by decide +kernel
theorem dX4_scanToken_12 : decode cX4_scanToken 12 = .ok (.iload_n 2, 1) := by decide +kernel
theorem dX4_scanToken_13 : decode cX4_scanToken 13 = .ok (.iconst (-1), 1) := by decide +kernel
theorem dX4_scanToken_14 : decode cX4_scanToken 14 = .ok (.if_icmp .ne 5, 3) := by decide +kernel
theorem dX4_scanToken_17 : decode cX4_scanToken 17 = .ok (.iconst 0, 1) := by decide +kernel
theorem dX4_scanToken_18 : decode cX4_scanToken 18 = .ok (.ireturn, 1) := by decide +kernel
theorem dX4_scanToken_19 : decode cX4_scanToken 19 = .ok (.iload_n 2, 1) := by decide +kernel
theorem dX4_scanToken_20 : decode cX4_scanToken 20 = .ok (.invokestatic 60, 3) := by decide +kernel
theorem dX4_scanToken_23 : decode cX4_scanToken 23 = .ok (.ifCond .eq 9, 3) := by decide +kernel
theorem dX4_scanToken_26 : decode cX4_scanToken 26 = .ok (.aload_n 0, 1) := by decide +kernel
theorem dX4_scanToken_27 : decode cX4_scanToken 27 = .ok (.iload_n 1, 1) := by decide +kernel
theorem dX4_scanToken_28 : decode cX4_scanToken 28 = .ok (.invokevirtual 63, 3) := by decide +kernel
theorem dX4_scanToken_31 : decode cX4_scanToken 31 = .ok (.ireturn, 1) := by decide +kernel
theorem dX4_scanToken_32 : decode cX4_scanToken 32 = .ok (.iload_n 2, 1) := by decide +kernel
theorem dX4_scanToken_33 : decode cX4_scanToken 33 = .ok (.bipush 45, 2) := by decide +kernel
theorem dX4_scanToken_35 : decode cX4_scanToken 35 = .ok (.if_icmp .eq 10, 3) := by decide +kernel
theorem dX4_scanToken_38 : decode cX4_scanToken 38 = .ok (.iload_n 2, 1) := by decide +kernel
theorem dX4_scanToken_39 : decode cX4_scanToken 39 = .ok (.invokestatic 66, 3) := by decide +kernel
theorem dX4_scanToken_42 : decode cX4_scanToken 42 = .ok (.ifCond .eq 20, 3) := by decide +kernel
theorem dX4_scanToken_45 : decode cX4_scanToken 45 = .ok (.aload_n 0, 1) := by decide +kernel
theorem dX4_scanToken_46 : decode cX4_scanToken 46 = .ok (.iload_n 1, 1) := by decide +kernel
theorem dX4_scanToken_47 : decode cX4_scanToken 47 = .ok (.iload_n 2, 1) := by decide +kernel
theorem dX4_scanToken_48 : decode cX4_scanToken 48 = .ok (.bipush 45, 2) := by decide +kernel
theorem dX4_scanToken_50 : decode cX4_scanToken 50 = .ok (.if_icmp .ne 7, 3) := by decide +kernel
theorem dX4_scanToken_53 : decode cX4_scanToken 53 = .ok (.iconst 1, 1) := by decide +kernel
theorem dX4_scanToken_54 : decode cX4_scanToken 54 = .ok (.goto 4, 3) := by decide +kernel
theorem dX4_scanToken_57 : decode cX4_scanToken 57 = .ok (.iconst 0, 1) := by decide +kernel
theorem dX4_scanToken_58 : decode cX4_scanToken 58 = .ok (.invokevirtual 69, 3) := by decide +kernel
theorem dX4_scanToken_61 : decode cX4_scanToken 61 = .ok (.ireturn, 1) := by decide +kernel
theorem dX4_scanToken_62 : decode cX4_scanToken 62 = .ok (.aload_n 0, 1) := by decide +kernel
theorem dX4_scanToken_63 : decode cX4_scanToken 63 = .ok (.dup, 1) := by decide +kernel
theorem dX4_scanToken_64 : decode cX4_scanToken 64 = .ok (.getfield 29, 3) := by decide +kernel
theorem dX4_scanToken_67 : decode cX4_scanToken 67 = .ok (.iconst 1, 1) := by decide +kernel
theorem dX4_scanToken_68 : decode cX4_scanToken 68 = .ok (.iadd, 1) := by decide +kernel
theorem dX4_scanToken_69 : decode cX4_scanToken 69 = .ok (.putfield 29, 3) := by decide +kernel
theorem dX4_scanToken_72 : decode cX4_scanToken 72 = .ok (.iload_n 2, 1) := by decide +kernel
theorem dX4_scanToken_73 : decode cX4_scanToken 73 = .ok (.bipush 59, 2) := by decide +kernel
theorem dX4_scanToken_75 : decode cX4_scanToken 75 = .ok (.if_icmp .ne 7, 3) := by decide +kernel
theorem dX4_scanToken_78 : decode cX4_scanToken 78 = .ok (.iconst 3, 1) := by decide +kernel
theorem dX4_scanToken_79 : decode cX4_scanToken 79 = .ok (.goto 4, 3) := by decide +kernel
theorem dX4_scanToken_82 : decode cX4_scanToken 82 = .ok (.iconst 4, 1) := by decide +kernel
theorem dX4_scanToken_83 : decode cX4_scanToken 83 = .ok (.ireturn, 1) := by decide +kernel
theorem dX4_scanWord_0 : decode cX4_scanWord 0 = .ok (.aload_n 0, 1) := by decide +kernel
theorem dX4_scanWord_1 : decode cX4_scanWord 1 = .ok (.getfield 29, 3) := by decide +kernel
theorem dX4_scanWord_4 : decode cX4_scanWord 4 = .ok (.istore_n 2, 1) := by decide +kernel
theorem dX4_scanWord_5 : decode cX4_scanWord 5 = .ok (.aload_n 0, 1) := by decide +kernel
theorem dX4_scanWord_6 : decode cX4_scanWord 6 = .ok (.getfield 29, 3) := by decide +kernel
theorem dX4_scanWord_9 : decode cX4_scanWord 9 = .ok (.aload_n 0, 1) := by decide +kernel
theorem dX4_scanWord_10 : decode cX4_scanWord 10 = .ok (.getfield 21, 3) := by decide +kernel
theorem dX4_scanWord_13 : decode cX4_scanWord 13 = .ok (.getfield 54, 3) := by decide +kernel
theorem dX4_scanWord_16 : decode cX4_scanWord 16 = .ok (.if_icmp .ge 33, 3) := by decide +kernel
theorem dX4_scanWord_19 : decode cX4_scanWord 19 = .ok (.aload_n 0, 1) := by decide +kernel
theorem dX4_scanWord_20 : decode cX4_scanWord 20 = .ok (.getfield 21, 3) := by decide +kernel
theorem dX4_scanWord_23 : decode cX4_scanWord 23 = .ok (.aload_n 0, 1) := by decide +kernel
theorem dX4_scanWord_24 : decode cX4_scanWord 24 = .ok (.getfield 29, 3) := by decide +kernel
theorem dX4_scanWord_27 : decode cX4_scanWord 27 = .ok (.invokevirtual 45, 3) := by decide +kernel
theorem dX4_scanWord_30 : decode cX4_scanWord 30 = .ok (.invokestatic 60, 3) := by decide +kernel
theorem dX4_scanWord_33 : decode cX4_scanWord 33 = .ok (.ifCond .eq 16, 3) := by decide +kernel
theorem dX4_scanWord_36 : decode cX4_scanWord 36 = .ok (.aload_n 0, 1) := by decide +kernel
theorem dX4_scanWord_37 : decode cX4_scanWord 37 = .ok (.dup, 1) := by decide +kernel
theorem dX4_scanWord_38 : decode cX4_scanWord 38 = .ok (.getfield 29, 3) := by decide +kernel
theorem dX4_scanWord_41 : decode cX4_scanWord 41 = .ok (.iconst 1, 1) := by decide +kernel
theorem dX4_scanWord_42 : decode cX4_scanWord 42 = .ok (.iadd, 1) := by decide +kernel
theorem dX4_scanWord_43 : decode cX4_scanWord 43 = .ok (.putfield 29, 3) := by decide +kernel
theorem dX4_scanWord_46 : decode cX4_scanWord 46 = .ok (.goto (-41), 3) := by decide +kernel
theorem dX4_scanWord_49 : decode cX4_scanWord 49 = .ok (.aload_n 0, 1) := by decide +kernel
theorem dX4_scanWord_50 : decode cX4_scanWord 50 = .ok (.getfield 18, 3) := by decide +kernel
theorem dX4_scanWord_53 : decode cX4_scanWord 53 = .ok (.iload_n 1, 1) := by decide +kernel
theorem dX4_scanWord_54 : decode cX4_scanWord 54 = .ok (.aload_n 0, 1) := by decide +kernel
theorem dX4_scanWord_55 : decode cX4_scanWord 55 = .ok (.getfield 29, 3) := by decide +kernel
theorem dX4_scanWord_58 : decode cX4_scanWord 58 = .ok (.iload_n 2, 1) := by decide +kernel
theorem dX4_scanWord_59 : decode cX4_scanWord 59 = .ok (.isub, 1) := by decide +kernel
theorem dX4_scanWord_60 : decode cX4_scanWord 60 = .ok (.iastore, 1) := by decide +kernel
theorem dX4_scanWord_61 : decode cX4_scanWord 61 = .ok (.aload_n 0, 1) := by decide +kernel
theorem dX4_scanWord_62 : decode cX4_scanWord 62 = .ok (.getfield 18, 3) := by decide +kernel
theorem dX4_scanWord_65 : decode cX4_scanWord 65 = .ok (.iload_n 1, 1) := by decide +kernel
theorem dX4_scanWord_66 : decode cX4_scanWord 66 = .ok (.iaload, 1) := by decide +kernel
theorem dX4_scanWord_67 : decode cX4_scanWord 67 = .ok (.bipush 8, 2) := by decide +kernel
theorem dX4_scanWord_69 : decode cX4_scanWord 69 = .ok (.if_icmp .gt 7, 3) := by decide +kernel
theorem dX4_scanWord_72 : decode cX4_scanWord 72 = .ok (.iconst 1, 1) := by decide +kernel
theorem dX4_scanWord_73 : decode cX4_scanWord 73 = .ok (.goto 4, 3) := by decide +kernel
theorem dX4_scanWord_76 : decode cX4_scanWord 76 = .ok (.iconst 4, 1) := by decide +kernel
theorem dX4_scanWord_77 : decode cX4_scanWord 77 = .ok (.ireturn, 1) := by decide +kernel
theorem dX4_scanNumber_0 : decode cX4_scanNumber 0 = .ok (.iload_n 2, 1) := by decide +kernel
theorem dX4_scanNumber_1 : decode cX4_scanNumber 1 = .ok (.ifCond .eq 13, 3) := by decide +kernel
theorem dX4_scanNumber_4 : decode cX4_scanNumber 4 = .ok (.aload_n 0, 1) := by decide +kernel
theorem dX4_scanNumber_5 : decode cX4_scanNumber 5 = .ok (.dup, 1) := by decide +kernel
theorem dX4_scanNumber_6 : decode cX4_scanNumber 6 = .ok (.getfield 29, 3) := by decide +kernel
theorem dX4_scanNumber_9 : decode cX4_scanNumber 9 = .ok (.iconst 1, 1) := by decide +kernel
theorem dX4_scanNumber_10 : decode cX4_scanNumber 10 = .ok (.iadd, 1) := by decide +kernel
theorem dX4_scanNumber_11 : decode cX4_scanNumber 11 = .ok (.putfield 29, 3) := by decide +kernel
theorem dX4_scanNumber_14 : decode cX4_scanNumber 14 = .ok (.aload_n 0, 1) := by decide +kernel
theorem dX4_scanNumber_15 : decode cX4_scanNumber 15 = .ok (.getfield 29, 3) := by decide +kernel
theorem dX4_scanNumber_18 : decode cX4_scanNumber 18 = .ok (.istore_n 3, 1) := by decide +kernel
theorem dX4_scanNumber_19 : decode cX4_scanNumber 19 = .ok (.iconst 0, 1) := by decide +kernel
theorem dX4_scanNumber_20 : decode cX4_scanNumber 20 = .ok (.istore 4, 2) := by decide +kernel
theorem dX4_scanNumber_22 : decode cX4_scanNumber 22 = .ok (.aload_n 0, 1) := by decide +kernel
theorem dX4_scanNumber_23 : decode cX4_scanNumber 23 = .ok (.getfield 29, 3) := by decide +kernel
theorem dX4_scanNumber_26 : decode cX4_scanNumber 26 = .ok (.aload_n 0, 1) := by decide +kernel
theorem dX4_scanNumber_27 : decode cX4_scanNumber 27 = .ok (.getfield 21, 3) := by decide +kernel
theorem dX4_scanNumber_30 : decode cX4_scanNumber 30 = .ok (.getfield 54, 3) := by decide +kernel
theorem dX4_scanNumber_33 : decode cX4_scanNumber 33 = .ok (.if_icmp .ge 65, 3) := by decide +kernel
theorem dX4_scanNumber_36 : decode cX4_scanNumber 36 = .ok (.aload_n 0, 1) := by decide +kernel
theorem dX4_scanNumber_37 : decode cX4_scanNumber 37 = .ok (.getfield 21, 3) := by decide +kernel
theorem dX4_scanNumber_40 : decode cX4_scanNumber 40 = .ok (.aload_n 0, 1) := by decide +kernel
theorem dX4_scanNumber_41 : decode cX4_scanNumber 41 = .ok (.getfield 29, 3) := by decide +kernel
theorem dX4_scanNumber_44 : decode cX4_scanNumber 44 = .ok (.invokevirtual 45, 3) := by decide +kernel
theorem dX4_scanNumber_47 : decode cX4_scanNumber 47 = .ok (.invokestatic 66, 3) := by decide +kernel
theorem dX4_scanNumber_50 : decode cX4_scanNumber 50 = .ok (.ifCond .eq 48, 3) := by decide +kernel
theorem dX4_scanNumber_53 : decode cX4_scanNumber 53 = .ok (.aload_n 0, 1) := by decide +kernel
theorem dX4_scanNumber_54 : decode cX4_scanNumber 54 = .ok (.getfield 29, 3) := by decide +kernel
theorem dX4_scanNumber_57 : decode cX4_scanNumber 57 = .ok (.iload_n 3, 1) := by decide +kernel
theorem dX4_scanNumber_58 : decode cX4_scanNumber 58 = .ok (.isub, 1) := by decide +kernel
theorem dX4_scanNumber_59 : decode cX4_scanNumber 59 = .ok (.iconst 5, 1) := by decide +kernel
theorem dX4_scanNumber_60 : decode cX4_scanNumber 60 = .ok (.if_icmp .ge 25, 3) := by decide +kernel
theorem dX4_scanNumber_63 : decode cX4_scanNumber 63 = .ok (.iload 4, 2) := by decide +kernel
theorem dX4_scanNumber_65 : decode cX4_scanNumber 65 = .ok (.bipush 10, 2) := by decide +kernel
theorem dX4_scanNumber_67 : decode cX4_scanNumber 67 = .ok (.imul, 1) := by decide +kernel
theorem dX4_scanNumber_68 : decode cX4_scanNumber 68 = .ok (.aload_n 0, 1) := by decide +kernel
theorem dX4_scanNumber_69 : decode cX4_scanNumber 69 = .ok (.getfield 21, 3) := by decide +kernel
theorem dX4_scanNumber_72 : decode cX4_scanNumber 72 = .ok (.aload_n 0, 1) := by decide +kernel
theorem dX4_scanNumber_73 : decode cX4_scanNumber 73 = .ok (.getfield 29, 3) := by decide +kernel
theorem dX4_scanNumber_76 : decode cX4_scanNumber 76 = .ok (.invokevirtual 45, 3) := by decide +kernel
theorem dX4_scanNumber_79 : decode cX4_scanNumber 79 = .ok (.iadd, 1) := by decide +kernel
theorem dX4_scanNumber_80 : decode cX4_scanNumber 80 = .ok (.bipush 48, 2) := by decide +kernel
theorem dX4_scanNumber_82 : decode cX4_scanNumber 82 = .ok (.isub, 1) := by decide +kernel
theorem dX4_scanNumber_83 : decode cX4_scanNumber 83 = .ok (.istore 4, 2) := by decide +kernel
theorem dX4_scanNumber_85 : decode cX4_scanNumber 85 = .ok (.aload_n 0, 1) := by decide +kernel
theorem dX4_scanNumber_86 : decode cX4_scanNumber 86 = .ok (.dup, 1) := by decide +kernel
theorem dX4_scanNumber_87 : decode cX4_scanNumber 87 = .ok (.getfield 29, 3) := by decide +kernel
theorem dX4_scanNumber_90 : decode cX4_scanNumber 90 = .ok (.iconst 1, 1) := by decide +kernel
theorem dX4_scanNumber_91 : decode cX4_scanNumber 91 = .ok (.iadd, 1) := by decide +kernel
theorem dX4_scanNumber_92 : decode cX4_scanNumber 92 = .ok (.putfield 29, 3) := by decide +kernel
theorem dX4_scanNumber_95 : decode cX4_scanNumber 95 = .ok (.goto (-73), 3) := by decide +kernel
theorem dX4_scanNumber_98 : decode cX4_scanNumber 98 = .ok (.aload_n 0, 1) := by decide +kernel
theorem dX4_scanNumber_99 : decode cX4_scanNumber 99 = .ok (.getfield 18, 3) := by decide +kernel
theorem dX4_scanNumber_102 : decode cX4_scanNumber 102 = .ok (.iload_n 1, 1) := by decide +kernel
theorem dX4_scanNumber_103 : decode cX4_scanNumber 103 = .ok (.iload_n 2, 1) := by decide +kernel
theorem dX4_scanNumber_104 : decode cX4_scanNumber 104 = .ok (.ifCond .eq 9, 3) := by decide +kernel
theorem dX4_scanNumber_107 : decode cX4_scanNumber 107 = .ok (.iload 4, 2) := by decide +kernel
theorem dX4_scanNumber_109 : decode cX4_scanNumber 109 = .ok (.ineg, 1) := by decide +kernel
theorem dX4_scanNumber_110 : decode cX4_scanNumber 110 = .ok (.goto 5, 3) := by decide +kernel
theorem dX4_scanNumber_113 : decode cX4_scanNumber 113 = .ok (.iload 4, 2) := by decide +kernel
theorem dX4_scanNumber_115 : decode cX4_scanNumber 115 = .ok (.iastore, 1) := by decide +kernel
theorem dX4_scanNumber_116 : decode cX4_scanNumber 116 = .ok (.aload_n 0, 1) := by decide +kernel
theorem dX4_scanNumber_117 : decode cX4_scanNumber 117 = .ok (.getfield 29, 3) := by decide +kernel
theorem dX4_scanNumber_120 : decode cX4_scanNumber 120 = .ok (.iload_n 3, 1) := by decide +kernel
theorem dX4_scanNumber_121 : decode cX4_scanNumber 121 = .ok (.isub, 1) := by decide +kernel
theorem dX4_scanNumber_122 : decode cX4_scanNumber 122 = .ok (.istore 5, 2) := by decide +kernel
theorem dX4_scanNumber_124 : decode cX4_scanNumber 124 = .ok (.iload 5, 2) := by decide +kernel
theorem dX4_scanNumber_126 : decode cX4_scanNumber 126 = .ok (.iconst 1, 1) := by decide +kernel
theorem dX4_scanNumber_127 : decode cX4_scanNumber 127 = .ok (.if_icmp .lt 30, 3) := by decide +kernel
theorem dX4_scanNumber_130 : decode cX4_scanNumber 130 = .ok (.iload 5, 2) := by decide +kernel
theorem dX4_scanNumber_132 : decode cX4_scanNumber 132 = .ok (.iconst 5, 1) := by decide +kernel
theorem dX4_scanNumber_133 : decode cX4_scanNumber 133 = .ok (.if_icmp .gt 24, 3) := by decide +kernel
theorem dX4_scanNumber_136 : decode cX4_scanNumber 136 = .ok (.aload_n 0, 1) := by decide +kernel
theorem dX4_scanNumber_137 : decode cX4_scanNumber 137 = .ok (.getfield 21, 3) := by decide +kernel
theorem dX4_scanNumber_140 : decode cX4_scanNumber 140 = .ok (.aload_n 0, 1) := by decide +kernel
theorem dX4_scanNumber_141 : decode cX4_scanNumber 141 = .ok (.getfield 29, 3) := by decide +kernel
theorem dX4_scanNumber_144 : decode cX4_scanNumber 144 = .ok (.invokevirtual 45, 3) := by decide +kernel
theorem dX4_scanNumber_147 : decode cX4_scanNumber 147 = .ok (.invokestatic 60, 3) := by decide +kernel
theorem dX4_scanNumber_150 : decode cX4_scanNumber 150 = .ok (.ifCond .ne 7, 3) := by decide +kernel
theorem dX4_scanNumber_153 : decode cX4_scanNumber 153 = .ok (.iconst 1, 1) := by decide +kernel
theorem dX4_scanNumber_154 : decode cX4_scanNumber 154 = .ok (.goto 4, 3) := by decide +kernel
theorem dX4_scanNumber_157 : decode cX4_scanNumber 157 = .ok (.iconst 0, 1) := by decide +kernel
theorem dX4_scanNumber_158 : decode cX4_scanNumber 158 = .ok (.istore 6, 2) := by decide +kernel
theorem dX4_scanNumber_160 : decode cX4_scanNumber 160 = .ok (.iload 6, 2) := by decide +kernel
theorem dX4_scanNumber_162 : decode cX4_scanNumber 162 = .ok (.ifCond .eq 7, 3) := by decide +kernel
theorem dX4_scanNumber_165 : decode cX4_scanNumber 165 = .ok (.iconst 2, 1) := by decide +kernel
theorem dX4_scanNumber_166 : decode cX4_scanNumber 166 = .ok (.goto 4, 3) := by decide +kernel
theorem dX4_scanNumber_169 : decode cX4_scanNumber 169 = .ok (.iconst 4, 1) := by decide +kernel
theorem dX4_scanNumber_170 : decode cX4_scanNumber 170 = .ok (.ireturn, 1) := by decide +kernel
theorem dX4_isBlank_0 : decode cX4_isBlank 0 = .ok (.iload_n 0, 1) := by decide +kernel
theorem dX4_isBlank_1 : decode cX4_isBlank 1 = .ok (.bipush 32, 2) := by decide +kernel
theorem dX4_isBlank_3 : decode cX4_isBlank 3 = .ok (.if_icmp .eq 9, 3) := by decide +kernel
theorem dX4_isBlank_6 : decode cX4_isBlank 6 = .ok (.iload_n 0, 1) := by decide +kernel
theorem dX4_isBlank_7 : decode cX4_isBlank 7 = .ok (.bipush 10, 2) := by decide +kernel
theorem dX4_isBlank_9 : decode cX4_isBlank 9 = .ok (.if_icmp .ne 7, 3) := by decide +kernel
theorem dX4_isBlank_12 : decode cX4_isBlank 12 = .ok (.iconst 1, 1) := by decide +kernel
theorem dX4_isBlank_13 : decode cX4_isBlank 13 = .ok (.goto 4, 3) := by decide +kernel
theorem dX4_isBlank_16 : decode cX4_isBlank 16 = .ok (.iconst 0, 1) := by decide +kernel
theorem dX4_isBlank_17 : decode cX4_isBlank 17 = .ok (.ireturn, 1) := by decide +kernel
theorem dX4_isLetter_0 : decode cX4_isLetter 0 = .ok (.iload_n 0, 1) := by decide +kernel
theorem dX4_isLetter_1 : decode cX4_isLetter 1 = .ok (.bipush 97, 2) := by decide +kernel
theorem dX4_isLetter_3 : decode cX4_isLetter 3 = .ok (.if_icmp .lt 13, 3) := by decide +kernel
theorem dX4_isLetter_6 : decode cX4_isLetter 6 = .ok (.iload_n 0, 1) := by decide +kernel
theorem dX4_isLetter_7 : decode cX4_isLetter 7 = .ok (.bipush 122, 2) := by decide +kernel
theorem dX4_isLetter_9 : decode cX4_isLetter 9 = .ok (.if_icmp .gt 7, 3) := by decide +kernel
theorem dX4_isLetter_12 : decode cX4_isLetter 12 = .ok (.iconst 1, 1) := by decide +kernel
theorem dX4_isLetter_13 : decode cX4_isLetter 13 = .ok (.goto 4, 3) := by decide +kernel
theorem dX4_isLetter_16 : decode cX4_isLetter 16 = .ok (.iconst 0, 1) := by decide +kernel
theorem dX4_isLetter_17 : decode cX4_isLetter 17 = .ok (.ireturn, 1) := by decide +kernel
theorem dX4_isDigit_0 : decode cX4_isDigit 0 = .ok (.iload_n 0, 1) := by decide +kernel
theorem dX4_isDigit_1 : decode cX4_isDigit 1 = .ok (.bipush 48, 2) := by decide +kernel
theorem dX4_isDigit_3 : decode cX4_isDigit 3 = .ok (.if_icmp .lt 13, 3) := by decide +kernel
theorem dX4_isDigit_6 : decode cX4_isDigit 6 = .ok (.iload_n 0, 1) := by decide +kernel
theorem dX4_isDigit_7 : decode cX4_isDigit 7 = .ok (.bipush 57, 2) := by decide +kernel
theorem dX4_isDigit_9 : decode cX4_isDigit 9 = .ok (.if_icmp .gt 7, 3) := by decide +kernel
theorem dX4_isDigit_12 : decode cX4_isDigit 12 = .ok (.iconst 1, 1) := by decide +kernel
theorem dX4_isDigit_13 : decode cX4_isDigit 13 = .ok (.goto 4, 3) := by decide +kernel
theorem dX4_isDigit_16 : decode cX4_isDigit 16 = .ok (.iconst 0, 1) := by decide +kernel
theorem dX4_isDigit_17 : decode cX4_isDigit 17 = .ok (.ireturn, 1) := by decide +kernel
theorem dX5_init_0 : decode cX5_init 0 = .ok (.aload_n 0, 1) := by decide +kernel
theorem dX5_init_1 : decode cX5_init 1 = .ok (.invokespecial 3, 3) := by decide +kernel
theorem dX5_init_4 : decode cX5_init 4 = .ok (.aload_n 0, 1) := by decide +kernel
theorem dX5_init_5 : decode cX5_init 5 = .ok (.sipush 1000, 3) := by decide +kernel
theorem dX5_init_8 : decode cX5_init 8 = .ok (.newarray .int, 2) := by decide +kernel
theorem dX5_init_10 : decode cX5_init 10 = .ok (.putfield 9, 3) := by decide +kernel
theorem dX5_init_13 : decode cX5_init 13 = .ok (.return_, 1) := by decide +kernel
theorem dX5_hasRoomFor_0 : decode cX5_hasRoomFor 0 = .ok (.aload_n 0, 1) := by decide +kernel
theorem dX5_hasRoomFor_1 : decode cX5_hasRoomFor 1 = .ok (.getfield 15, 3) := by decide +kernel
theorem dX5_hasRoomFor_4 : decode cX5_hasRoomFor 4 = .ok (.iload_n 1, 1) := by decide +kernel
theorem dX5_hasRoomFor_5 : decode cX5_hasRoomFor 5 = .ok (.iadd, 1) := by decide +kernel
theorem dX5_hasRoomFor_6 : decode cX5_hasRoomFor 6 = .ok (.sipush 1000, 3) := by decide +kernel
theorem dX5_hasRoomFor_9 : decode cX5_hasRoomFor 9 = .ok (.if_icmp .gt 7, 3) := by decide +kernel
theorem dX5_hasRoomFor_12 : decode cX5_hasRoomFor 12 = .ok (.iconst 1, 1) := by decide +kernel
theorem dX5_hasRoomFor_13 : decode cX5_hasRoomFor 13 = .ok (.goto 4, 3) := by decide +kernel
theorem dX5_hasRoomFor_16 : decode cX5_hasRoomFor 16 = .ok (.iconst 0, 1) := by decide +kernel
theorem dX5_hasRoomFor_17 : decode cX5_hasRoomFor 17 = .ok (.ireturn, 1) := by decide +kernel
theorem dX5_put_0 : decode cX5_put 0 = .ok (.aload_n 0, 1) := by decide +kernel
theorem dX5_put_1 : decode cX5_put 1 = .ok (.iconst 4, 1) := by decide +kernel
theorem dX5_put_2 : decode cX5_put 2 = .ok (.invokevirtual 19, 3) := by decide +kernel
theorem dX5_put_5 : decode cX5_put 5 = .ok (.ifCond .ne 4, 3) := by decide +kernel
theorem dX5_put_8 : decode cX5_put 8 = .ok (.return_, 1) := by decide +kernel
theorem dX5_put_9 : decode cX5_put 9 = .ok (.bipush 24, 2) := by decide +kernel
theorem dX5_put_11 : decode cX5_put 11 = .ok (.istore_n 2, 1) := by decide +kernel
theorem dX5_put_12 : decode cX5_put 12 = .ok (.iload_n 2, 1) := by decide +kernel
theorem dX5_put_13 : decode cX5_put 13 = .ok (.ifCond .lt 35, 3) := by decide +kernel
theorem dX5_put_16 : decode cX5_put 16 = .ok (.aload_n 0, 1) := by decide +kernel
theorem dX5_put_17 : decode cX5_put 17 = .ok (.getfield 9, 3) := by decide +kernel
theorem dX5_put_20 : decode cX5_put 20 = .ok (.aload_n 0, 1) := by decide +kernel
theorem dX5_put_21 : decode cX5_put 21 = .ok (.getfield 15, 3) := by decide +kernel
theorem dX5_put_24 : decode cX5_put 24 = .ok (.iload_n 1, 1) := by decide +kernel
theorem dX5_put_25 : decode cX5_put 25 = .ok (.iload_n 2, 1) := by decide +kernel
theorem dX5_put_26 : decode cX5_put 26 = .ok (.iushr, 1) := by decide +kernel
theorem dX5_put_27 : decode cX5_put 27 = .ok (.sipush 255, 3) := by decide +kernel
theorem dX5_put_30 : decode cX5_put 30 = .ok (.iand, 1) := by decide +kernel
theorem dX5_put_31 : decode cX5_put 31 = .ok (.iastore, 1) := by decide +kernel
theorem dX5_put_32 : decode cX5_put 32 = .ok (.aload_n 0, 1) := by decide +kernel
theorem dX5_put_33 : decode cX5_put 33 = .ok (.dup, 1) := by decide +kernel
theorem dX5_put_34 : decode cX5_put 34 = .ok (.getfield 15, 3) := by decide +kernel
theorem dX5_put_37 : decode cX5_put 37 = .ok (.iconst 1, 1) := by decide +kernel
theorem dX5_put_38 : decode cX5_put 38 = .ok (.iadd, 1) := by decide +kernel
theorem dX5_put_39 : decode cX5_put 39 = .ok (.putfield 15, 3) := by decide +kernel
theorem dX5_put_42 : decode cX5_put 42 = .ok (.iinc 2 (-8), 3) := by decide +kernel
theorem dX5_put_45 : decode cX5_put 45 = .ok (.goto (-33), 3) := by decide +kernel
theorem dX5_put_48 : decode cX5_put 48 = .ok (.return_, 1) := by decide +kernel
theorem dX5_byteAt_0 : decode cX5_byteAt 0 = .ok (.iload_n 1, 1) := by decide +kernel
theorem dX5_byteAt_1 : decode cX5_byteAt 1 = .ok (.ifCond .lt 20, 3) := by decide +kernel
theorem dX5_byteAt_4 : decode cX5_byteAt 4 = .ok (.iload_n 1, 1) := by decide +kernel
theorem dX5_byteAt_5 : decode cX5_byteAt 5 = .ok (.aload_n 0, 1) := by decide +kernel
theorem dX5_byteAt_6 : decode cX5_byteAt 6 = .ok (.getfield 15, 3) := by decide +kernel
theorem dX5_byteAt_9 : decode cX5_byteAt 9 = .ok (.if_icmp .ge 12, 3) := by decide +kernel
theorem dX5_byteAt_12 : decode cX5_byteAt 12 = .ok (.aload_n 0, 1) := by decide +kernel
theorem dX5_byteAt_13 : decode cX5_byteAt 13 = .ok (.getfield 9, 3) := by decide +kernel
theorem dX5_byteAt_16 : decode cX5_byteAt 16 = .ok (.iload_n 1, 1) := by decide +kernel
theorem dX5_byteAt_17 : decode cX5_byteAt 17 = .ok (.iaload, 1) := by decide +kernel
theorem dX5_byteAt_18 : decode cX5_byteAt 18 = .ok (.goto 4, 3) := by decide +kernel
theorem dX5_byteAt_21 : decode cX5_byteAt 21 = .ok (.iconst (-1), 1) := by decide +kernel
theorem dX5_byteAt_22 : decode cX5_byteAt 22 = .ok (.ireturn, 1) := by decide +kernel
theorem dX6_init_0 : decode cX6_init 0 = .ok (.aload_n 0, 1) := by decide +kernel
theorem dX6_init_1 : decode cX6_init 1 = .ok (.invokespecial 3, 3) := by decide +kernel
theorem dX6_init_4 : decode cX6_init 4 = .ok (.aload_n 0, 1) := by decide +kernel
theorem dX6_init_5 : decode cX6_init 5 = .ok (.bipush 16, 2) := by decide +kernel
theorem dX6_init_7 : decode cX6_init 7 = .ok (.newarray .int, 2) := by decide +kernel
theorem dX6_init_9 : decode cX6_init 9 = .ok (.putfield 9, 3) := by decide +kernel
theorem dX6_init_12 : decode cX6_init 12 = .ok (.aload_n 0, 1) := by decide +kernel
theorem dX6_init_13 : decode cX6_init 13 = .ok (.bipush 16, 2) := by decide +kernel
theorem dX6_init_15 : decode cX6_init 15 = .ok (.newarray .int, 2) := by decide +kernel
theorem dX6_init_17 : decode cX6_init 17 = .ok (.putfield 15, 3) := by decide +kernel
theorem dX6_init_20 : decode cX6_init 20 = .ok (.aload_n 0, 1) := by decide +kernel
theorem dX6_init_21 : decode cX6_init 21 = .ok (.bipush 16, 2) := by decide +kernel
theorem dX6_init_23 : decode cX6_init 23 = .ok (.newarray .int, 2) := by decide +kernel
theorem dX6_init_25 : decode cX6_init 25 = .ok (.putfield 18, 3) := by decide +kernel
theorem dX6_init_28 : decode cX6_init 28 = .ok (.return_, 1) := by decide +kernel
theorem dX6_stageAhead_0 : decode cX6_stageAhead 0 = .ok (.iload_n 1, 1) := by decide +kernel
theorem dX6_stageAhead_1 : decode cX6_stageAhead 1 = .ok (.iconst 1, 1) := by decide +kernel
theorem dX6_stageAhead_2 : decode cX6_stageAhead 2 = .ok (.if_icmp .lt 24, 3) := by decide +kernel
theorem dX6_stageAhead_5 : decode cX6_stageAhead 5 = .ok (.iload_n 1, 1) := by decide +kernel
theorem dX6_stageAhead_6 : decode cX6_stageAhead 6 = .ok (.aload_n 0, 1) := by decide +kernel
theorem dX6_stageAhead_7 : decode cX6_stageAhead 7 = .ok (.getfield 21, 3) := by decide +kernel
theorem dX6_stageAhead_10 : decode cX6_stageAhead 10 = .ok (.if_icmp .gt 16, 3) := by decide +kernel
theorem dX6_stageAhead_13 : decode cX6_stageAhead 13 = .ok (.aload_n 0, 1) := by decide +kernel
theorem dX6_stageAhead_14 : decode cX6_stageAhead 14 = .ok (.getfield 15, 3) := by decide +kernel
theorem dX6_stageAhead_17 : decode cX6_stageAhead 17 = .ok (.iload_n 1, 1) := by decide +kernel
theorem dX6_stageAhead_18 : decode cX6_stageAhead 18 = .ok (.iconst 1, 1) := by decide +kernel
theorem dX6_stageAhead_19 : decode cX6_stageAhead 19 = .ok (.isub, 1) := by decide +kernel
theorem dX6_stageAhead_20 : decode cX6_stageAhead 20 = .ok (.iaload, 1) := by decide +kernel
theorem dX6_stageAhead_21 : decode cX6_stageAhead 21 = .ok (.iconst 1, 1) := by decide +kernel
theorem dX6_stageAhead_22 : decode cX6_stageAhead 22 = .ok (.iadd, 1) := by decide +kernel
theorem dX6_stageAhead_23 : decode cX6_stageAhead 23 = .ok (.goto 4, 3) := by decide +kernel
theorem dX6_stageAhead_26 : decode cX6_stageAhead 26 = .ok (.iconst 0, 1) := by decide +kernel
theorem dX6_stageAhead_27 : decode cX6_stageAhead 27 = .ok (.ireturn, 1) := by decide +kernel
theorem dX6_add_0 : decode cX6_add 0 = .ok (.aload_n 0, 1) := by decide +kernel
theorem dX6_add_1 : decode cX6_add 1 = .ok (.getfield 21, 3) := by decide +kernel
theorem dX6_add_4 : decode cX6_add 4 = .ok (.bipush 16, 2) := by decide +kernel
theorem dX6_add_6 : decode cX6_add 6 = .ok (.if_icmp .ge 43, 3) := by decide +kernel
theorem dX6_add_9 : decode cX6_add 9 = .ok (.aload_n 0, 1) := by decide +kernel
theorem dX6_add_10 : decode cX6_add 10 = .ok (.getfield 9, 3) := by decide +kernel
theorem dX6_add_13 : decode cX6_add 13 = .ok (.aload_n 0, 1) := by decide +kernel
theorem dX6_add_14 : decode cX6_add 14 = .ok (.getfield 21, 3) := by decide +kernel
theorem dX6_add_17 : decode cX6_add 17 = .ok (.iload_n 1, 1) := by decide +kernel
theorem dX6_add_18 : decode cX6_add 18 = .ok (.iastore, 1) := by decide +kernel
theorem dX6_add_19 : decode cX6_add 19 = .ok (.aload_n 0, 1) := by decide +kernel
theorem dX6_add_20 : decode cX6_add 20 = .ok (.getfield 15, 3) := by decide +kernel
theorem dX6_add_23 : decode cX6_add 23 = .ok (.aload_n 0, 1) := by decide +kernel
theorem dX6_add_24 : decode cX6_add 24 = .ok (.getfield 21, 3) := by decide +kernel
theorem dX6_add_27 : decode cX6_add 27 = .ok (.iload_n 2, 1) := by decide +kernel
theorem dX6_add_28 : decode cX6_add 28 = .ok (.iastore, 1) := by decide +kernel
theorem dX6_add_29 : decode cX6_add 29 = .ok (.aload_n 0, 1) := by decide +kernel
theorem dX6_add_30 : decode cX6_add 30 = .ok (.getfield 18, 3) := by decide +kernel
theorem dX6_add_33 : decode cX6_add 33 = .ok (.aload_n 0, 1) := by decide +kernel
theorem dX6_add_34 : decode cX6_add 34 = .ok (.getfield 21, 3) := by decide +kernel
theorem dX6_add_37 : decode cX6_add 37 = .ok (.iload_n 3, 1) := by decide +kernel
theorem dX6_add_38 : decode cX6_add 38 = .ok (.iastore, 1) := by decide +kernel
theorem dX6_add_39 : decode cX6_add 39 = .ok (.aload_n 0, 1) := by decide +kernel
theorem dX6_add_40 : decode cX6_add 40 = .ok (.dup, 1) := by decide +kernel
theorem dX6_add_41 : decode cX6_add 41 = .ok (.getfield 21, 3) := by decide +kernel
theorem dX6_add_44 : decode cX6_add 44 = .ok (.iconst 1, 1) := by decide +kernel
theorem dX6_add_45 : decode cX6_add 45 = .ok (.iadd, 1) := by decide +kernel
theorem dX6_add_46 : decode cX6_add 46 = .ok (.putfield 21, 3) := by decide +kernel
theorem dX6_add_49 : decode cX6_add 49 = .ok (.return_, 1) := by decide +kernel
theorem dX7_init_0 : decode cX7_init 0 = .ok (.aload_n 0, 1) := by decide +kernel
theorem dX7_init_1 : decode cX7_init 1 = .ok (.invokespecial 3, 3) := by decide +kernel
theorem dX7_init_4 : decode cX7_init 4 = .ok (.aload_n 0, 1) := by decide +kernel
theorem dX7_init_5 : decode cX7_init 5 = .ok (.new 9, 3) := by decide +kernel
theorem dX7_init_8 : decode cX7_init 8 = .ok (.dup, 1) := by decide +kernel
theorem dX7_init_9 : decode cX7_init 9 = .ok (.invokespecial 11, 3) := by decide +kernel
theorem dX7_init_12 : decode cX7_init 12 = .ok (.putfield 12, 3) := by decide +kernel
theorem dX7_init_15 : decode cX7_init 15 = .ok (.aload_n 0, 1) := by decide +kernel
theorem dX7_init_16 : decode cX7_init 16 = .ok (.new 16, 3) := by decide +kernel
theorem dX7_init_19 : decode cX7_init 19 = .ok (.dup, 1) := by decide +kernel
theorem dX7_init_20 : decode cX7_init 20 = .ok (.aload_n 0, 1) := by decide +kernel
theorem dX7_init_21 : decode cX7_init 21 = .ok (.getfield 12, 3) := by decide +kernel
theorem dX7_init_24 : decode cX7_init 24 = .ok (.invokespecial 18, 3) := by decide +kernel
theorem dX7_init_27 : decode cX7_init 27 = .ok (.putfield 21, 3) := by decide +kernel
theorem dX7_init_30 : decode cX7_init 30 = .ok (.aload_n 0, 1) := by decide +kernel
theorem dX7_init_31 : decode cX7_init 31 = .ok (.new 25, 3) := by decide +kernel
theorem dX7_init_34 : decode cX7_init 34 = .ok (.dup, 1) := by decide +kernel
theorem dX7_init_35 : decode cX7_init 35 = .ok (.invokespecial 27, 3) := by decide +kernel
theorem dX7_init_38 : decode cX7_init 38 = .ok (.putfield 28, 3) := by decide +kernel
theorem dX7_init_41 : decode cX7_init 41 = .ok (.aload_n 0, 1) := by decide +kernel
theorem dX7_init_42 : decode cX7_init 42 = .ok (.getfield 28, 3) := by decide +kernel
theorem dX7_init_45 : decode cX7_init 45 = .ok (.invokevirtual 32, 3) := by decide +kernel
theorem dX7_init_48 : decode cX7_init 48 = .ok (.aload_n 0, 1) := by decide +kernel
theorem dX7_init_49 : decode cX7_init 49 = .ok (.new 35, 3) := by decide +kernel
theorem dX7_init_52 : decode cX7_init 52 = .ok (.dup, 1) := by decide +kernel
theorem dX7_init_53 : decode cX7_init 53 = .ok (.aload_n 0, 1) := by decide +kernel
theorem dX7_init_54 : decode cX7_init 54 = .ok (.getfield 28, 3) := by decide +kernel
theorem dX7_init_57 : decode cX7_init 57 = .ok (.invokespecial 37, 3) := by decide +kernel
theorem dX7_init_60 : decode cX7_init 60 = .ok (.putfield 40, 3) := by decide +kernel
theorem dX7_init_63 : decode cX7_init 63 = .ok (.aload_n 0, 1) := by decide +kernel
theorem dX7_init_64 : decode cX7_init 64 = .ok (.iconst 3, 1) := by decide +kernel
theorem dX7_init_65 : decode cX7_init 65 = .ok (.anewarray 44, 3) := by decide +kernel
theorem dX7_init_68 : decode cX7_init 68 = .ok (.putfield 46, 3) := by decide +kernel
theorem dX7_init_71 : decode cX7_init 71 = .ok (.iconst 0, 1) := by decide +kernel
theorem dX7_init_72 : decode cX7_init 72 = .ok (.istore_n 1, 1) := by decide +kernel
theorem dX7_init_73 : decode cX7_init 73 = .ok (.iload_n 1, 1) := by decide +kernel
theorem dX7_init_74 : decode cX7_init 74 = .ok (.iconst 3, 1) := by decide +kernel
theorem dX7_init_75 : decode cX7_init 75 = .ok (.if_icmp .ge 31, 3) := by decide +kernel
theorem dX7_init_78 : decode cX7_init 78 = .ok (.aload_n 0, 1) := by decide +kernel
theorem dX7_init_79 : decode cX7_init 79 = .ok (.getfield 46, 3) := by decide +kernel
theorem dX7_init_82 : decode cX7_init 82 = .ok (.iload_n 1, 1) := by decide +kernel
theorem dX7_init_83 : decode cX7_init 83 = .ok (.new 44, 3) := by decide +kernel
theorem dX7_init_86 : decode cX7_init 86 = .ok (.dup, 1) := by decide +kernel
theorem dX7_init_87 : decode cX7_init 87 = .ok (.aload_n 0, 1) := by decide +kernel
theorem dX7_init_88 : decode cX7_init 88 = .ok (.getfield 28, 3) := by decide +kernel
theorem dX7_init_91 : decode cX7_init 91 = .ok (.aload_n 0, 1) := by decide +kernel
theorem dX7_init_92 : decode cX7_init 92 = .ok (.getfield 40, 3) := by decide +kernel
theorem dX7_init_95 : decode cX7_init 95 = .ok (.iload_n 1, 1) := by decide +kernel
theorem dX7_init_96 : decode cX7_init 96 = .ok (.invokespecial 50, 3) := by decide +kernel
theorem dX7_init_99 : decode cX7_init 99 = .ok (.aastore, 1) := by decide +kernel
theorem dX7_init_100 : decode cX7_init 100 = .ok (.iinc 1 1, 3) := by decide +kernel
theorem dX7_init_103 : decode cX7_init 103 = .ok (.goto (-30), 3) := by decide +kernel
theorem dX7_init_106 : decode cX7_init 106 = .ok (.return_, 1) := by decide +kernel
theorem dX7_feed_0 : decode cX7_feed 0 = .ok (.aload_n 0, 1) := by decide +kernel
theorem dX7_feed_1 : decode cX7_feed 1 = .ok (.getfield 12, 3) := by decide +kernel
theorem dX7_feed_4 : decode cX7_feed 4 = .ok (.bipush 20, 2) := by decide +kernel
theorem dX7_feed_6 : decode cX7_feed 6 = .ok (.invokevirtual 53, 3) := by decide +kernel
theorem dX7_feed_9 : decode cX7_feed 9 = .ok (.ifCond .ne 5, 3) := by decide +kernel
theorem dX7_feed_12 : decode cX7_feed 12 = .ok (.iconst (-1), 1) := by decide +kernel
theorem dX7_feed_13 : decode cX7_feed 13 = .ok (.ireturn, 1) := by decide +kernel
theorem dX7_feed_14 : decode cX7_feed 14 = .ok (.aload_n 0, 1) := by decide +kernel
theorem dX7_feed_15 : decode cX7_feed 15 = .ok (.getfield 12, 3) := by decide +kernel
theorem dX7_feed_18 : decode cX7_feed 18 = .ok (.iload_n 1, 1) := by decide +kernel
theorem dX7_feed_19 : decode cX7_feed 19 = .ok (.invokevirtual 57, 3) := by decide +kernel
theorem dX7_feed_22 : decode cX7_feed 22 = .ok (.aload_n 0, 1) := by decide +kernel
theorem dX7_feed_23 : decode cX7_feed 23 = .ok (.getfield 12, 3) := by decide +kernel
theorem dX7_feed_26 : decode cX7_feed 26 = .ok (.iload_n 2, 1) := by decide +kernel
theorem dX7_feed_27 : decode cX7_feed 27 = .ok (.invokevirtual 57, 3) := by decide +kernel
theorem dX7_feed_30 : decode cX7_feed 30 = .ok (.aload_n 0, 1) := by decide +kernel
theorem dX7_feed_31 : decode cX7_feed 31 = .ok (.getfield 12, 3) := by decide +kernel
theorem dX7_feed_34 : decode cX7_feed 34 = .ok (.iload_n 3, 1) := by decide +kernel
theorem dX7_feed_35 : decode cX7_feed 35 = .ok (.invokevirtual 57, 3) := by decide +kernel
theorem dX7_feed_38 : decode cX7_feed 38 = .ok (.aload_n 0, 1) := by decide +kernel
theorem dX7_feed_39 : decode cX7_feed 39 = .ok (.getfield 12, 3) := by decide +kernel
theorem dX7_feed_42 : decode cX7_feed 42 = .ok (.iload 4, 2) := by decide +kernel
theorem dX7_feed_44 : decode cX7_feed 44 = .ok (.invokevirtual 57, 3) := by decide +kernel
theorem dX7_feed_47 : decode cX7_feed 47 = .ok (.aload_n 0, 1) := by decide +kernel
theorem dX7_feed_48 : decode cX7_feed 48 = .ok (.getfield 12, 3) := by decide +kernel
theorem dX7_feed_51 : decode cX7_feed 51 = .ok (.iload 5, 2) := by decide +kernel
theorem dX7_feed_53 : decode cX7_feed 53 = .ok (.invokevirtual 57, 3) := by decide +kernel
theorem dX7_feed_56 : decode cX7_feed 56 = .ok (.aload_n 0, 1) := by decide +kernel
theorem dX7_feed_57 : decode cX7_feed 57 = .ok (.getfield 12, 3) := by decide +kernel
theorem dX7_feed_60 : decode cX7_feed 60 = .ok (.getfield 61, 3) := by decide +kernel
theorem dX7_feed_63 : decode cX7_feed 63 = .ok (.ireturn, 1) := by decide +kernel
theorem dX7_end_0 : decode cX7_end 0 = .ok (.iload_n 1, 1) := by decide +kernel
theorem dX7_end_1 : decode cX7_end 1 = .ok (.ifCond .lt 14, 3) := by decide +kernel
theorem dX7_end_4 : decode cX7_end 4 = .ok (.iload_n 1, 1) := by decide +kernel
theorem dX7_end_5 : decode cX7_end 5 = .ok (.aload_n 0, 1) := by decide +kernel
theorem dX7_end_6 : decode cX7_end 6 = .ok (.getfield 12, 3) := by decide +kernel
theorem dX7_end_9 : decode cX7_end 9 = .ok (.getfield 61, 3) := by decide +kernel
theorem dX7_end_12 : decode cX7_end 12 = .ok (.if_icmp .le 5, 3) := by decide +kernel
theorem dX7_end_15 : decode cX7_end 15 = .ok (.iconst (-1), 1) := by decide +kernel
theorem dX7_end_16 : decode cX7_end 16 = .ok (.ireturn, 1) := by decide +kernel
theorem dX7_end_17 : decode cX7_end 17 = .ok (.aload_n 0, 1) := by decide +kernel
theorem dX7_end_18 : decode cX7_end 18 = .ok (.getfield 12, 3) := by decide +kernel
theorem dX7_end_21 : decode cX7_end 21 = .ok (.iload_n 1, 1) := by decide +kernel
theorem dX7_end_22 : decode cX7_end 22 = .ok (.putfield 61, 3) := by decide +kernel
theorem dX7_end_25 : decode cX7_end 25 = .ok (.iload_n 1, 1) := by decide +kernel
theorem dX7_end_26 : decode cX7_end 26 = .ok (.ireturn, 1) := by decide +kernel
theorem dX7_book_0 : decode cX7_book 0 = .ok (.aload_n 0, 1) := by decide +kernel
theorem dX7_book_1 : decode cX7_book 1 = .ok (.getfield 21, 3) := by decide +kernel
theorem dX7_book_4 : decode cX7_book 4 = .ok (.invokevirtual 65, 3) := by decide +kernel
theorem dX7_book_7 : decode cX7_book 7 = .ok (.ifCond .ne 5, 3) := by decide +kernel
theorem dX7_book_10 : decode cX7_book 10 = .ok (.iconst (-1), 1) := by decide +kernel
theorem dX7_book_11 : decode cX7_book 11 = .ok (.ireturn, 1) := by decide +kernel
theorem dX7_book_12 : decode cX7_book 12 = .ok (.aload_n 0, 1) := by decide +kernel
theorem dX7_book_13 : decode cX7_book 13 = .ok (.getfield 28, 3) := by decide +kernel
theorem dX7_book_16 : decode cX7_book 16 = .ok (.aload_n 0, 1) := by decide +kernel
theorem dX7_book_17 : decode cX7_book 17 = .ok (.getfield 21, 3) := by decide +kernel
theorem dX7_book_20 : decode cX7_book 20 = .ok (.getfield 69, 3) := by decide +kernel
theorem dX7_book_23 : decode cX7_book 23 = .ok (.invokevirtual 72, 3) := by decide +kernel
theorem dX7_book_26 : decode cX7_book 26 = .ok (.aload_n 0, 1) := by decide +kernel
theorem dX7_book_27 : decode cX7_book 27 = .ok (.getfield 12, 3) := by decide +kernel
theorem dX7_book_30 : decode cX7_book 30 = .ok (.iconst 0, 1) := by decide +kernel
theorem dX7_book_31 : decode cX7_book 31 = .ok (.putfield 61, 3) := by decide +kernel
theorem dX7_book_34 : decode cX7_book 34 = .ok (.aload_n 0, 1) := by decide +kernel
theorem dX7_book_35 : decode cX7_book 35 = .ok (.getfield 40, 3) := by decide +kernel
theorem dX7_book_38 : decode cX7_book 38 = .ok (.iconst 0, 1) := by decide +kernel
theorem dX7_book_39 : decode cX7_book 39 = .ok (.putfield 75, 3) := by decide +kernel
theorem dX7_book_42 : decode cX7_book 42 = .ok (.aload_n 0, 1) := by decide +kernel
theorem dX7_book_43 : decode cX7_book 43 = .ok (.invokevirtual 79, 3) := by decide +kernel
theorem dX7_book_46 : decode cX7_book 46 = .ok (.aload_n 0, 1) := by decide +kernel
theorem dX7_book_47 : decode cX7_book 47 = .ok (.getfield 28, 3) := by decide +kernel
theorem dX7_book_50 : decode cX7_book 50 = .ok (.getfield 82, 3) := by decide +kernel
theorem dX7_book_53 : decode cX7_book 53 = .ok (.ireturn, 1) := by decide +kernel
theorem dX7_fault_0 : decode cX7_fault 0 = .ok (.iload_n 1, 1) := by decide +kernel
theorem dX7_fault_1 : decode cX7_fault 1 = .ok (.lookupswitch 43 #[(0, 27), (1, 35)], 27) := by decide +kernel
theorem dX7_fault_28 : decode cX7_fault 28 = .ok (.aload_n 0, 1) := by decide +kernel
theorem dX7_fault_29 : decode cX7_fault 29 = .ok (.getfield 21, 3) := by decide +kernel
theorem dX7_fault_32 : decode cX7_fault 32 = .ok (.getfield 85, 3) := by decide +kernel
theorem dX7_fault_35 : decode cX7_fault 35 = .ok (.ireturn, 1) := by decide +kernel
theorem dX7_fault_36 : decode cX7_fault 36 = .ok (.aload_n 0, 1) := by decide +kernel
theorem dX7_fault_37 : decode cX7_fault 37 = .ok (.getfield 21, 3) := by decide +kernel
theorem dX7_fault_40 : decode cX7_fault 40 = .ok (.getfield 88, 3) := by decide +kernel
theorem dX7_fault_43 : decode cX7_fault 43 = .ok (.ireturn, 1) := by decide +kernel
theorem dX7_fault_44 : decode cX7_fault 44 = .ok (.iconst (-1), 1) := by decide +kernel
theorem dX7_fault_45 : decode cX7_fault 45 = .ok (.ireturn, 1) := by decide +kernel
theorem dX7_flight_0 : decode cX7_flight 0 = .ok (.iload_n 1, 1) := by decide +kernel
theorem dX7_flight_1 : decode cX7_flight 1 = .ok (.bipush 10, 2) := by decide +kernel
theorem dX7_flight_3 : decode cX7_flight 3 = .ok (.invokestatic 91, 3) := by decide +kernel
theorem dX7_flight_6 : decode cX7_flight 6 = .ok (.ifCond .eq 53, 3) := by decide +kernel
theorem dX7_flight_9 : decode cX7_flight 9 = .ok (.iload_n 2, 1) := by decide +kernel
theorem dX7_flight_10 : decode cX7_flight 10 = .ok (.bipush 10, 2) := by decide +kernel
theorem dX7_flight_12 : decode cX7_flight 12 = .ok (.invokestatic 91, 3) := by decide +kernel
theorem dX7_flight_15 : decode cX7_flight 15 = .ok (.ifCond .eq 44, 3) := by decide +kernel
theorem dX7_flight_18 : decode cX7_flight 18 = .ok (.iload_n 1, 1) := by decide +kernel
theorem dX7_flight_19 : decode cX7_flight 19 = .ok (.iload_n 2, 1) := by decide +kernel
theorem dX7_flight_20 : decode cX7_flight 20 = .ok (.if_icmp .eq 39, 3) := by decide +kernel
theorem dX7_flight_23 : decode cX7_flight 23 = .ok (.iload_n 3, 1) := by decide +kernel
theorem dX7_flight_24 : decode cX7_flight 24 = .ok (.sipush 1000, 3) := by decide +kernel
theorem dX7_flight_27 : decode cX7_flight 27 = .ok (.invokestatic 91, 3) := by decide +kernel
theorem dX7_flight_30 : decode cX7_flight 30 = .ok (.ifCond .eq 29, 3) := by decide +kernel
theorem dX7_flight_33 : decode cX7_flight 33 = .ok (.iload 4, 2) := by decide +kernel
theorem dX7_flight_35 : decode cX7_flight 35 = .ok (.sipush 30001, 3) := by decide +kernel
theorem dX7_flight_38 : decode cX7_flight 38 = .ok (.invokestatic 91, 3) := by decide +kernel
theorem dX7_flight_41 : decode cX7_flight 41 = .ok (.ifCond .eq 18, 3) := by decide +kernel
theorem dX7_flight_44 : decode cX7_flight 44 = .ok (.iload 5, 2) := by decide +kernel
theorem dX7_flight_46 : decode cX7_flight 46 = .ok (.sipush 10001, 3) := by decide +kernel
theorem dX7_flight_49 : decode cX7_flight 49 = .ok (.invokestatic 91, 3) := by decide +kernel
theorem dX7_flight_52 : decode cX7_flight 52 = .ok (.ifCond .eq 7, 3) := by decide +kernel
theorem dX7_flight_55 : decode cX7_flight 55 = .ok (.iconst 1, 1) := by decide +kernel
theorem dX7_flight_56 : decode cX7_flight 56 = .ok (.goto 4, 3) := by decide +kernel
theorem dX7_flight_59 : decode cX7_flight 59 = .ok (.iconst 0, 1) := by decide +kernel
theorem dX7_flight_60 : decode cX7_flight 60 = .ok (.istore 6, 2) := by decide +kernel
theorem dX7_flight_62 : decode cX7_flight 62 = .ok (.iload 6, 2) := by decide +kernel
theorem dX7_flight_64 : decode cX7_flight 64 = .ok (.ifCond .ne 5, 3) := by decide +kernel
theorem dX7_flight_67 : decode cX7_flight 67 = .ok (.iconst 0, 1) := by decide +kernel
theorem dX7_flight_68 : decode cX7_flight 68 = .ok (.ireturn, 1) := by decide +kernel
