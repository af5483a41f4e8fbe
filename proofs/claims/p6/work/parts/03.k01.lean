theorem dX2_prepare_9 : decode cX2_prepare 9 = .ok (.iconst 1, 1) := by decide +kernel
theorem dX2_prepare_10 : decode cX2_prepare 10 = .ok (.putfield 47, 3) := by decide +kernel
theorem dX2_prepare_13 : decode cX2_prepare 13 = .ok (.iconst 0, 1) := by decide +kernel
theorem dX2_prepare_14 : decode cX2_prepare 14 = .ok (.istore_n 1, 1) := by decide +kernel
theorem dX2_prepare_15 : decode cX2_prepare 15 = .ok (.iload_n 1, 1) := by decide +kernel
theorem dX2_prepare_16 : decode cX2_prepare 16 = .ok (.aload_n 0, 1) := by decide +kernel
theorem dX2_prepare_17 : decode cX2_prepare 17 = .ok (.getfield 31, 3) := by decide +kernel
theorem dX2_prepare_20 : decode cX2_prepare 20 = .ok (.getfield 56, 3) := by decide +kernel
theorem dX2_prepare_23 : decode cX2_prepare 23 = .ok (.if_icmp .ge 46, 3) := by decide +kernel
theorem dX2_prepare_26 : decode cX2_prepare 26 = .ok (.iconst 0, 1) := by decide +kernel
theorem dX2_prepare_27 : decode cX2_prepare 27 = .ok (.istore_n 2, 1) := by decide +kernel
theorem dX2_prepare_28 : decode cX2_prepare 28 = .ok (.iload_n 2, 1) := by decide +kernel
theorem dX2_prepare_29 : decode cX2_prepare 29 = .ok (.bipush 6, 2) := by decide +kernel
theorem dX2_prepare_31 : decode cX2_prepare 31 = .ok (.if_icmp .ge 32, 3) := by decide +kernel
theorem dX2_prepare_34 : decode cX2_prepare 34 = .ok (.aload_n 0, 1) := by decide +kernel
theorem dX2_prepare_35 : decode cX2_prepare 35 = .ok (.getfield 18, 3) := by decide +kernel
theorem dX2_prepare_38 : decode cX2_prepare 38 = .ok (.iload_n 1, 1) := by decide +kernel
theorem dX2_prepare_39 : decode cX2_prepare 39 = .ok (.iload_n 2, 1) := by decide +kernel
theorem dX2_prepare_40 : decode cX2_prepare 40 = .ok (.invokestatic 61, 3) := by decide +kernel
theorem dX2_prepare_43 : decode cX2_prepare 43 = .ok (.aload_n 0, 1) := by decide +kernel
theorem dX2_prepare_44 : decode cX2_prepare 44 = .ok (.getfield 35, 3) := by decide +kernel
theorem dX2_prepare_47 : decode cX2_prepare 47 = .ok (.iload_n 1, 1) := by decide +kernel
theorem dX2_prepare_48 : decode cX2_prepare 48 = .ok (.iload_n 2, 1) := by decide +kernel
theorem dX2_prepare_49 : decode cX2_prepare 49 = .ok (.aload_n 0, 1) := by decide +kernel
theorem dX2_prepare_50 : decode cX2_prepare 50 = .ok (.getfield 39, 3) := by decide +kernel
theorem dX2_prepare_53 : decode cX2_prepare 53 = .ok (.invokevirtual 65, 3) := by decide +kernel
theorem dX2_prepare_56 : decode cX2_prepare 56 = .ok (.iastore, 1) := by decide +kernel
theorem dX2_prepare_57 : decode cX2_prepare 57 = .ok (.iinc 2 1, 3) := by decide +kernel
theorem dX2_prepare_60 : decode cX2_prepare 60 = .ok (.goto (-32), 3) := by decide +kernel
theorem dX2_prepare_63 : decode cX2_prepare 63 = .ok (.iinc 1 1, 3) := by decide +kernel
theorem dX2_prepare_66 : decode cX2_prepare 66 = .ok (.goto (-51), 3) := by decide +kernel
theorem dX2_prepare_69 : decode cX2_prepare 69 = .ok (.aload_n 0, 1) := by decide +kernel
theorem dX2_prepare_70 : decode cX2_prepare 70 = .ok (.aload_n 0, 1) := by decide +kernel
theorem dX2_prepare_71 : decode cX2_prepare 71 = .ok (.getfield 35, 3) := by decide +kernel
theorem dX2_prepare_74 : decode cX2_prepare 74 = .ok (.getfield 71, 3) := by decide +kernel
theorem dX2_prepare_77 : decode cX2_prepare 77 = .ok (.aload_n 0, 1) := by decide +kernel
theorem dX2_prepare_78 : decode cX2_prepare 78 = .ok (.getfield 22, 3) := by decide +kernel
theorem dX2_prepare_81 : decode cX2_prepare 81 = .ok (.invokevirtual 74, 3) := by decide +kernel
theorem dX2_prepare_84 : decode cX2_prepare 84 = .ok (.aload_n 0, 1) := by decide +kernel
theorem dX2_prepare_85 : decode cX2_prepare 85 = .ok (.invokevirtual 78, 3) := by decide +kernel
theorem dX2_prepare_88 : decode cX2_prepare 88 = .ok (.return_, 1) := by decide +kernel
theorem dX2_minutesAlong_0 : decode cX2_minutesAlong 0 = .ok (.iload_n 1, 1) := by decide +kernel
theorem dX2_minutesAlong_1 : decode cX2_minutesAlong 1 = .ok (.ifCond .lt 43, 3) := by decide +kernel
theorem dX2_minutesAlong_4 : decode cX2_minutesAlong 4 = .ok (.iload_n 1, 1) := by decide +kernel
theorem dX2_minutesAlong_5 : decode cX2_minutesAlong 5 = .ok (.aload_n 0, 1) := by decide +kernel
theorem dX2_minutesAlong_6 : decode cX2_minutesAlong 6 = .ok (.getfield 12, 3) := by decide +kernel
theorem dX2_minutesAlong_9 : decode cX2_minutesAlong 9 = .ok (.getfield 81, 3) := by decide +kernel
theorem dX2_minutesAlong_12 : decode cX2_minutesAlong 12 = .ok (.if_icmp .ge 32, 3) := by decide +kernel
theorem dX2_minutesAlong_15 : decode cX2_minutesAlong 15 = .ok (.aload_n 0, 1) := by decide +kernel
theorem dX2_minutesAlong_16 : decode cX2_minutesAlong 16 = .ok (.getfield 18, 3) := by decide +kernel
theorem dX2_minutesAlong_19 : decode cX2_minutesAlong 19 = .ok (.aload_n 0, 1) := by decide +kernel
theorem dX2_minutesAlong_20 : decode cX2_minutesAlong 20 = .ok (.getfield 12, 3) := by decide +kernel
theorem dX2_minutesAlong_23 : decode cX2_minutesAlong 23 = .ok (.getfield 84, 3) := by decide +kernel
theorem dX2_minutesAlong_26 : decode cX2_minutesAlong 26 = .ok (.iload_n 1, 1) := by decide +kernel
theorem dX2_minutesAlong_27 : decode cX2_minutesAlong 27 = .ok (.iaload, 1) := by decide +kernel
theorem dX2_minutesAlong_28 : decode cX2_minutesAlong 28 = .ok (.aload_n 0, 1) := by decide +kernel
theorem dX2_minutesAlong_29 : decode cX2_minutesAlong 29 = .ok (.getfield 12, 3) := by decide +kernel
theorem dX2_minutesAlong_32 : decode cX2_minutesAlong 32 = .ok (.getfield 87, 3) := by decide +kernel
theorem dX2_minutesAlong_35 : decode cX2_minutesAlong 35 = .ok (.iload_n 1, 1) := by decide +kernel
theorem dX2_minutesAlong_36 : decode cX2_minutesAlong 36 = .ok (.iaload, 1) := by decide +kernel
theorem dX2_minutesAlong_37 : decode cX2_minutesAlong 37 = .ok (.invokestatic 61, 3) := by decide +kernel
theorem dX2_minutesAlong_40 : decode cX2_minutesAlong 40 = .ok (.iaload, 1) := by decide +kernel
theorem dX2_minutesAlong_41 : decode cX2_minutesAlong 41 = .ok (.goto 4, 3) := by decide +kernel
theorem dX2_minutesAlong_44 : decode cX2_minutesAlong 44 = .ok (.iconst (-1), 1) := by decide +kernel
theorem dX2_minutesAlong_45 : decode cX2_minutesAlong 45 = .ok (.ireturn, 1) := by decide +kernel
theorem dX2_canStartWith_0 : decode cX2_canStartWith 0 = .ok (.iload_n 1, 1) := by decide +kernel
theorem dX2_canStartWith_1 : decode cX2_canStartWith 1 = .ok (.aload_n 0, 1) := by decide +kernel
theorem dX2_canStartWith_2 : decode cX2_canStartWith 2 = .ok (.getfield 12, 3) := by decide +kernel
theorem dX2_canStartWith_5 : decode cX2_canStartWith 5 = .ok (.getfield 90, 3) := by decide +kernel
theorem dX2_canStartWith_8 : decode cX2_canStartWith 8 = .ok (.if_icmp .lt 13, 3) := by decide +kernel
theorem dX2_canStartWith_11 : decode cX2_canStartWith 11 = .ok (.iload_n 1, 1) := by decide +kernel
theorem dX2_canStartWith_12 : decode cX2_canStartWith 12 = .ok (.ldc 93, 2) := by decide +kernel
theorem dX2_canStartWith_14 : decode cX2_canStartWith 14 = .ok (.if_icmp .gt 7, 3) := by decide +kernel
theorem dX2_canStartWith_17 : decode cX2_canStartWith 17 = .ok (.iconst 1, 1) := by decide +kernel
theorem dX2_canStartWith_18 : decode cX2_canStartWith 18 = .ok (.goto 4, 3) := by decide +kernel
theorem dX2_canStartWith_21 : decode cX2_canStartWith 21 = .ok (.iconst 0, 1) := by decide +kernel
theorem dX2_canStartWith_22 : decode cX2_canStartWith 22 = .ok (.ireturn, 1) := by decide +kernel
theorem dX2_fuelBehind_0 : decode cX2_fuelBehind 0 = .ok (.iload_n 1, 1) := by decide +kernel
theorem dX2_fuelBehind_1 : decode cX2_fuelBehind 1 = .ok (.ifCond .lt 14, 3) := by decide +kernel
theorem dX2_fuelBehind_4 : decode cX2_fuelBehind 4 = .ok (.iload_n 1, 1) := by decide +kernel
theorem dX2_fuelBehind_5 : decode cX2_fuelBehind 5 = .ok (.aload_n 0, 1) := by decide +kernel
theorem dX2_fuelBehind_6 : decode cX2_fuelBehind 6 = .ok (.getfield 12, 3) := by decide +kernel
theorem dX2_fuelBehind_9 : decode cX2_fuelBehind 9 = .ok (.getfield 81, 3) := by decide +kernel
theorem dX2_fuelBehind_12 : decode cX2_fuelBehind 12 = .ok (.if_icmp .lt 5, 3) := by decide +kernel
theorem dX2_fuelBehind_15 : decode cX2_fuelBehind 15 = .ok (.iload_n 2, 1) := by decide +kernel
theorem dX2_fuelBehind_16 : decode cX2_fuelBehind 16 = .ok (.ireturn, 1) := by decide +kernel
theorem dX2_fuelBehind_17 : decode cX2_fuelBehind 17 = .ok (.aload_n 0, 1) := by decide +kernel
theorem dX2_fuelBehind_18 : decode cX2_fuelBehind 18 = .ok (.getfield 12, 3) := by decide +kernel
theorem dX2_fuelBehind_21 : decode cX2_fuelBehind 21 = .ok (.getfield 87, 3) := by decide +kernel
theorem dX2_fuelBehind_24 : decode cX2_fuelBehind 24 = .ok (.iload_n 1, 1) := by decide +kernel
theorem dX2_fuelBehind_25 : decode cX2_fuelBehind 25 = .ok (.iaload, 1) := by decide +kernel
theorem dX2_fuelBehind_26 : decode cX2_fuelBehind 26 = .ok (.istore_n 3, 1) := by decide +kernel
theorem dX2_fuelBehind_27 : decode cX2_fuelBehind 27 = .ok (.iload_n 2, 1) := by decide +kernel
theorem dX2_fuelBehind_28 : decode cX2_fuelBehind 28 = .ok (.aload_n 0, 1) := by decide +kernel
theorem dX2_fuelBehind_29 : decode cX2_fuelBehind 29 = .ok (.getfield 31, 3) := by decide +kernel
theorem dX2_fuelBehind_32 : decode cX2_fuelBehind 32 = .ok (.iload_n 3, 1) := by decide +kernel
theorem dX2_fuelBehind_33 : decode cX2_fuelBehind 33 = .ok (.aload_n 0, 1) := by decide +kernel
theorem dX2_fuelBehind_34 : decode cX2_fuelBehind 34 = .ok (.getfield 12, 3) := by decide +kernel
theorem dX2_fuelBehind_37 : decode cX2_fuelBehind 37 = .ok (.iload_n 1, 1) := by decide +kernel
theorem dX2_fuelBehind_38 : decode cX2_fuelBehind 38 = .ok (.invokevirtual 94, 3) := by decide +kernel
theorem dX2_fuelBehind_41 : decode cX2_fuelBehind 41 = .ok (.invokevirtual 98, 3) := by decide +kernel
theorem dX2_fuelBehind_44 : decode cX2_fuelBehind 44 = .ok (.isub, 1) := by decide +kernel
theorem dX2_fuelBehind_45 : decode cX2_fuelBehind 45 = .ok (.istore 4, 2) := by decide +kernel
theorem dX2_fuelBehind_47 : decode cX2_fuelBehind 47 = .ok (.aload_n 0, 1) := by decide +kernel
theorem dX2_fuelBehind_48 : decode cX2_fuelBehind 48 = .ok (.getfield 35, 3) := by decide +kernel
theorem dX2_fuelBehind_51 : decode cX2_fuelBehind 51 = .ok (.aload_n 0, 1) := by decide +kernel
theorem dX2_fuelBehind_52 : decode cX2_fuelBehind 52 = .ok (.iload_n 1, 1) := by decide +kernel
theorem dX2_fuelBehind_53 : decode cX2_fuelBehind 53 = .ok (.invokevirtual 101, 3) := by decide +kernel
theorem dX2_fuelBehind_56 : decode cX2_fuelBehind 56 = .ok (.iload_n 3, 1) := by decide +kernel
theorem dX2_fuelBehind_57 : decode cX2_fuelBehind 57 = .ok (.iload 4, 2) := by decide +kernel
theorem dX2_fuelBehind_59 : decode cX2_fuelBehind 59 = .ok (.invokevirtual 104, 3) := by decide +kernel
theorem dX2_fuelBehind_62 : decode cX2_fuelBehind 62 = .ok (.ireturn, 1) := by decide +kernel
theorem dX2_fuelHome_0 : decode cX2_fuelHome 0 = .ok (.iload_n 1, 1) := by decide +kernel
theorem dX2_fuelHome_1 : decode cX2_fuelHome 1 = .ok (.iconst 1, 1) := by decide +kernel
theorem dX2_fuelHome_2 : decode cX2_fuelHome 2 = .ok (.if_icmp .lt 14, 3) := by decide +kernel
theorem dX2_fuelHome_5 : decode cX2_fuelHome 5 = .ok (.iload_n 1, 1) := by decide +kernel
theorem dX2_fuelHome_6 : decode cX2_fuelHome 6 = .ok (.aload_n 0, 1) := by decide +kernel
theorem dX2_fuelHome_7 : decode cX2_fuelHome 7 = .ok (.getfield 12, 3) := by decide +kernel
theorem dX2_fuelHome_10 : decode cX2_fuelHome 10 = .ok (.getfield 81, 3) := by decide +kernel
theorem dX2_fuelHome_13 : decode cX2_fuelHome 13 = .ok (.if_icmp .le 5, 3) := by decide +kernel
theorem dX2_fuelHome_16 : decode cX2_fuelHome 16 = .ok (.iconst 0, 1) := by decide +kernel
theorem dX2_fuelHome_17 : decode cX2_fuelHome 17 = .ok (.ireturn, 1) := by decide +kernel
theorem dX2_fuelHome_18 : decode cX2_fuelHome 18 = .ok (.aload_n 0, 1) := by decide +kernel
theorem dX2_fuelHome_19 : decode cX2_fuelHome 19 = .ok (.getfield 50, 3) := by decide +kernel
theorem dX2_fuelHome_22 : decode cX2_fuelHome 22 = .ok (.ifCond .ne 23, 3) := by decide +kernel
theorem dX2_fuelHome_25 : decode cX2_fuelHome 25 = .ok (.aload_n 0, 1) := by decide +kernel
theorem dX2_fuelHome_26 : decode cX2_fuelHome 26 = .ok (.iconst 1, 1) := by decide +kernel
theorem dX2_fuelHome_27 : decode cX2_fuelHome 27 = .ok (.putfield 50, 3) := by decide +kernel
theorem dX2_fuelHome_30 : decode cX2_fuelHome 30 = .ok (.aload_n 0, 1) := by decide +kernel
theorem dX2_fuelHome_31 : decode cX2_fuelHome 31 = .ok (.aload_n 0, 1) := by decide +kernel
theorem dX2_fuelHome_32 : decode cX2_fuelHome 32 = .ok (.getfield 35, 3) := by decide +kernel
theorem dX2_fuelHome_35 : decode cX2_fuelHome 35 = .ok (.getfield 107, 3) := by decide +kernel
theorem dX2_fuelHome_38 : decode cX2_fuelHome 38 = .ok (.aload_n 0, 1) := by decide +kernel
theorem dX2_fuelHome_39 : decode cX2_fuelHome 39 = .ok (.getfield 25, 3) := by decide +kernel
theorem dX2_fuelHome_42 : decode cX2_fuelHome 42 = .ok (.invokevirtual 74, 3) := by decide +kernel
theorem dX2_fuelHome_45 : decode cX2_fuelHome 45 = .ok (.aload_n 0, 1) := by decide +kernel
theorem dX2_fuelHome_46 : decode cX2_fuelHome 46 = .ok (.getfield 25, 3) := by decide +kernel
theorem dX2_fuelHome_49 : decode cX2_fuelHome 49 = .ok (.aload_n 0, 1) := by decide +kernel
theorem dX2_fuelHome_50 : decode cX2_fuelHome 50 = .ok (.getfield 31, 3) := by decide +kernel
theorem dX2_fuelHome_53 : decode cX2_fuelHome 53 = .ok (.getfield 110, 3) := by decide +kernel
theorem dX2_fuelHome_56 : decode cX2_fuelHome 56 = .ok (.aload_n 0, 1) := by decide +kernel
theorem dX2_fuelHome_57 : decode cX2_fuelHome 57 = .ok (.getfield 12, 3) := by decide +kernel
theorem dX2_fuelHome_60 : decode cX2_fuelHome 60 = .ok (.getfield 84, 3) := by decide +kernel
theorem dX2_fuelHome_63 : decode cX2_fuelHome 63 = .ok (.iload_n 1, 1) := by decide +kernel
theorem dX2_fuelHome_64 : decode cX2_fuelHome 64 = .ok (.iconst 1, 1) := by decide +kernel
theorem dX2_fuelHome_65 : decode cX2_fuelHome 65 = .ok (.isub, 1) := by decide +kernel
theorem dX2_fuelHome_66 : decode cX2_fuelHome 66 = .ok (.iaload, 1) := by decide +kernel
theorem dX2_fuelHome_67 : decode cX2_fuelHome 67 = .ok (.iaload, 1) := by decide +kernel
theorem dX2_fuelHome_68 : decode cX2_fuelHome 68 = .ok (.aload_n 0, 1) := by decide +kernel
theorem dX2_fuelHome_69 : decode cX2_fuelHome 69 = .ok (.getfield 12, 3) := by decide +kernel
theorem dX2_fuelHome_72 : decode cX2_fuelHome 72 = .ok (.iload_n 1, 1) := by decide +kernel
theorem dX2_fuelHome_73 : decode cX2_fuelHome 73 = .ok (.invokevirtual 94, 3) := by decide +kernel
theorem dX2_fuelHome_76 : decode cX2_fuelHome 76 = .ok (.invokestatic 112, 3) := by decide +kernel
theorem dX2_fuelHome_79 : decode cX2_fuelHome 79 = .ok (.iaload, 1) := by decide +kernel
theorem dX2_fuelHome_80 : decode cX2_fuelHome 80 = .ok (.ireturn, 1) := by decide +kernel
theorem dX2_groundFor_0 : decode cX2_groundFor 0 = .ok (.iload_n 2, 1) := by decide +kernel
theorem dX2_groundFor_1 : decode cX2_groundFor 1 = .ok (.istore_n 3, 1) := by decide +kernel
theorem dX2_groundFor_2 : decode cX2_groundFor 2 = .ok (.aload_n 1, 1) := by decide +kernel
theorem dX2_groundFor_3 : decode cX2_groundFor 3 = .ok (.getfield 81, 3) := by decide +kernel
theorem dX2_groundFor_6 : decode cX2_groundFor 6 = .ok (.iconst 1, 1) := by decide +kernel
theorem dX2_groundFor_7 : decode cX2_groundFor 7 = .ok (.isub, 1) := by decide +kernel
theorem dX2_groundFor_8 : decode cX2_groundFor 8 = .ok (.istore 4, 2) := by decide +kernel
theorem dX2_groundFor_10 : decode cX2_groundFor 10 = .ok (.iload 4, 2) := by decide +kernel
theorem dX2_groundFor_12 : decode cX2_groundFor 12 = .ok (.ifCond .lt 78, 3) := by decide +kernel
theorem dX2_groundFor_15 : decode cX2_groundFor 15 = .ok (.aload_n 1, 1) := by decide +kernel
theorem dX2_groundFor_16 : decode cX2_groundFor 16 = .ok (.getfield 87, 3) := by decide +kernel
theorem dX2_groundFor_19 : decode cX2_groundFor 19 = .ok (.iload 4, 2) := by decide +kernel
theorem dX2_groundFor_21 : decode cX2_groundFor 21 = .ok (.iaload, 1) := by decide +kernel
theorem dX2_groundFor_22 : decode cX2_groundFor 22 = .ok (.istore 5, 2) := by decide +kernel
theorem dX2_groundFor_24 : decode cX2_groundFor 24 = .ok (.aload_n 0, 1) := by decide +kernel
theorem dX2_groundFor_25 : decode cX2_groundFor 25 = .ok (.getfield 18, 3) := by decide +kernel
theorem dX2_groundFor_28 : decode cX2_groundFor 28 = .ok (.aload_n 1, 1) := by decide +kernel
theorem dX2_groundFor_29 : decode cX2_groundFor 29 = .ok (.getfield 84, 3) := by decide +kernel
theorem dX2_groundFor_32 : decode cX2_groundFor 32 = .ok (.iload 4, 2) := by decide +kernel
theorem dX2_groundFor_34 : decode cX2_groundFor 34 = .ok (.iaload, 1) := by decide +kernel
theorem dX2_groundFor_35 : decode cX2_groundFor 35 = .ok (.iload 5, 2) := by decide +kernel
theorem dX2_groundFor_37 : decode cX2_groundFor 37 = .ok (.invokestatic 61, 3) := by decide +kernel
theorem dX2_groundFor_40 : decode cX2_groundFor 40 = .ok (.iaload, 1) := by decide +kernel
theorem dX2_groundFor_41 : decode cX2_groundFor 41 = .ok (.istore 6, 2) := by decide +kernel
theorem dX2_groundFor_43 : decode cX2_groundFor 43 = .ok (.iload 6, 2) := by decide +kernel
theorem dX2_groundFor_45 : decode cX2_groundFor 45 = .ok (.iconst (-1), 1) := by decide +kernel
theorem dX2_groundFor_46 : decode cX2_groundFor 46 = .ok (.if_icmp .ne 5, 3) := by decide +kernel
theorem dX2_groundFor_49 : decode cX2_groundFor 49 = .ok (.iconst (-1), 1) := by decide +kernel
theorem dX2_groundFor_50 : decode cX2_groundFor 50 = .ok (.ireturn, 1) := by decide +kernel
theorem dX2_groundFor_51 : decode cX2_groundFor 51 = .ok (.iload_n 3, 1) := by decide +kernel
theorem dX2_groundFor_52 : decode cX2_groundFor 52 = .ok (.aload_n 0, 1) := by decide +kernel
theorem dX2_groundFor_53 : decode cX2_groundFor 53 = .ok (.getfield 35, 3) := by decide +kernel
theorem dX2_groundFor_56 : decode cX2_groundFor 56 = .ok (.iload 6, 2) := by decide +kernel
theorem dX2_groundFor_58 : decode cX2_groundFor 58 = .ok (.iload 5, 2) := by decide +kernel
theorem dX2_groundFor_60 : decode cX2_groundFor 60 = .ok (.iload_n 3, 1) := by decide +kernel
theorem dX2_groundFor_61 : decode cX2_groundFor 61 = .ok (.invokevirtual 115, 3) := by decide +kernel
theorem dX2_groundFor_64 : decode cX2_groundFor 64 = .ok (.iadd, 1) := by decide +kernel
theorem dX2_groundFor_65 : decode cX2_groundFor 65 = .ok (.istore_n 3, 1) := by decide +kernel
theorem dX2_groundFor_66 : decode cX2_groundFor 66 = .ok (.iload_n 3, 1) := by decide +kernel
theorem dX2_groundFor_67 : decode cX2_groundFor 67 = .ok (.aload_n 0, 1) := by decide +kernel
theorem dX2_groundFor_68 : decode cX2_groundFor 68 = .ok (.getfield 31, 3) := by decide +kernel
theorem dX2_groundFor_71 : decode cX2_groundFor 71 = .ok (.iload 5, 2) := by decide +kernel
theorem dX2_groundFor_73 : decode cX2_groundFor 73 = .ok (.aload_n 1, 1) := by decide +kernel
theorem dX2_groundFor_74 : decode cX2_groundFor 74 = .ok (.iload 4, 2) := by decide +kernel
theorem dX2_groundFor_76 : decode cX2_groundFor 76 = .ok (.invokevirtual 94, 3) := by decide +kernel
theorem dX2_groundFor_79 : decode cX2_groundFor 79 = .ok (.invokevirtual 98, 3) := by decide +kernel
theorem dX2_groundFor_82 : decode cX2_groundFor 82 = .ok (.iadd, 1) := by decide +kernel
theorem dX2_groundFor_83 : decode cX2_groundFor 83 = .ok (.istore_n 3, 1) := by decide +kernel
theorem dX2_groundFor_84 : decode cX2_groundFor 84 = .ok (.iinc 4 (-1), 3) := by decide +kernel
theorem dX2_groundFor_87 : decode cX2_groundFor 87 = .ok (.goto (-77), 3) := by decide +kernel
theorem dX2_groundFor_90 : decode cX2_groundFor 90 = .ok (.iload_n 3, 1) := by decide +kernel
theorem dX2_groundFor_91 : decode cX2_groundFor 91 = .ok (.ireturn, 1) := by decide +kernel
theorem dX2_cheapestCarried_0 : decode cX2_cheapestCarried 0 = .ok (.aload_n 0, 1) := by decide +kernel
theorem dX2_cheapestCarried_1 : decode cX2_cheapestCarried 1 = .ok (.invokevirtual 118, 3) := by decide +kernel
theorem dX2_cheapestCarried_4 : decode cX2_cheapestCarried 4 = .ok (.iconst (-1), 1) := by decide +kernel
theorem dX2_cheapestCarried_5 : decode cX2_cheapestCarried 5 = .ok (.istore_n 3, 1) := by decide +kernel
theorem dX2_cheapestCarried_6 : decode cX2_cheapestCarried 6 = .ok (.iconst 0, 1) := by decide +kernel
theorem dX2_cheapestCarried_7 : decode cX2_cheapestCarried 7 = .ok (.istore 4, 2) := by decide +kernel
theorem dX2_cheapestCarried_9 : decode cX2_cheapestCarried 9 = .ok (.iconst 0, 1) := by decide +kernel
theorem dX2_cheapestCarried_10 : decode cX2_cheapestCarried 10 = .ok (.istore 5, 2) := by decide +kernel
theorem dX2_cheapestCarried_12 : decode cX2_cheapestCarried 12 = .ok (.iload 5, 2) := by decide +kernel
theorem dX2_cheapestCarried_14 : decode cX2_cheapestCarried 14 = .ok (.aload_n 0, 1) := by decide +kernel
theorem dX2_cheapestCarried_15 : decode cX2_cheapestCarried 15 = .ok (.getfield 121, 3) := by decide +kernel
theorem dX2_cheapestCarried_18 : decode cX2_cheapestCarried 18 = .ok (.if_icmp .ge 44, 3) := by decide +kernel
theorem dX2_cheapestCarried_21 : decode cX2_cheapestCarried 21 = .ok (.iload_n 1, 1) := by decide +kernel
theorem dX2_cheapestCarried_22 : decode cX2_cheapestCarried 22 = .ok (.aload_n 0, 1) := by decide +kernel
theorem dX2_cheapestCarried_23 : decode cX2_cheapestCarried 23 = .ok (.getfield 28, 3) := by decide +kernel
theorem dX2_cheapestCarried_26 : decode cX2_cheapestCarried 26 = .ok (.iload 5, 2) := by decide +kernel
theorem dX2_cheapestCarried_28 : decode cX2_cheapestCarried 28 = .ok (.iaload, 1) := by decide +kernel
theorem dX2_cheapestCarried_29 : decode cX2_cheapestCarried 29 = .ok (.imul, 1) := by decide +kernel
theorem dX2_cheapestCarried_30 : decode cX2_cheapestCarried 30 = .ok (.iload_n 2, 1) := by decide +kernel
theorem dX2_cheapestCarried_31 : decode cX2_cheapestCarried 31 = .ok (.iload 5, 2) := by decide +kernel
theorem dX2_cheapestCarried_33 : decode cX2_cheapestCarried 33 = .ok (.imul, 1) := by decide +kernel
theorem dX2_cheapestCarried_34 : decode cX2_cheapestCarried 34 = .ok (.isub, 1) := by decide +kernel
theorem dX2_cheapestCarried_35 : decode cX2_cheapestCarried 35 = .ok (.istore 6, 2) := by decide +kernel
theorem dX2_cheapestCarried_37 : decode cX2_cheapestCarried 37 = .ok (.iload_n 3, 1) := by decide +kernel
theorem dX2_cheapestCarried_38 : decode cX2_cheapestCarried 38 = .ok (.iconst (-1), 1) := by decide +kernel
theorem dX2_cheapestCarried_39 : decode cX2_cheapestCarried 39 = .ok (.if_icmp .eq 10, 3) := by decide +kernel
theorem dX2_cheapestCarried_42 : decode cX2_cheapestCarried 42 = .ok (.iload 6, 2) := by decide +kernel
theorem dX2_cheapestCarried_44 : decode cX2_cheapestCarried 44 = .ok (.iload 4, 2) := by decide +kernel
theorem dX2_cheapestCarried_46 : decode cX2_cheapestCarried 46 = .ok (.if_icmp .ge 10, 3) := by decide +kernel
theorem dX2_cheapestCarried_49 : decode cX2_cheapestCarried 49 = .ok (.iload 5, 2) := by decide +kernel
theorem dX2_cheapestCarried_51 : decode cX2_cheapestCarried 51 = .ok (.istore_n 3, 1) := by decide +kernel
theorem dX2_cheapestCarried_52 : decode cX2_cheapestCarried 52 = .ok (.iload 6, 2) := by decide +kernel
theorem dX2_cheapestCarried_54 : decode cX2_cheapestCarried 54 = .ok (.istore 4, 2) := by decide +kernel
theorem dX2_cheapestCarried_56 : decode cX2_cheapestCarried 56 = .ok (.iinc 5 1, 3) := by decide +kernel
theorem dX2_cheapestCarried_59 : decode cX2_cheapestCarried 59 = .ok (.goto (-47), 3) := by decide +kernel
theorem dX2_cheapestCarried_62 : decode cX2_cheapestCarried 62 = .ok (.iload_n 3, 1) := by decide +kernel
theorem dX2_cheapestCarried_63 : decode cX2_cheapestCarried 63 = .ok (.ireturn, 1) := by decide +kernel
theorem dX2_reckonCarry_0 : decode cX2_reckonCarry 0 = .ok (.aload_n 0, 1) := by decide +kernel
theorem dX2_reckonCarry_1 : decode cX2_reckonCarry 1 = .ok (.getfield 53, 3) := by decide +kernel
theorem dX2_reckonCarry_4 : decode cX2_reckonCarry 4 = .ok (.ifCond .eq 4, 3) := by decide +kernel
theorem dX2_reckonCarry_7 : decode cX2_reckonCarry 7 = .ok (.return_, 1) := by decide +kernel
theorem dX2_reckonCarry_8 : decode cX2_reckonCarry 8 = .ok (.aload_n 0, 1) := by decide +kernel
theorem dX2_reckonCarry_9 : decode cX2_reckonCarry 9 = .ok (.iconst 1, 1) := by decide +kernel
theorem dX2_reckonCarry_10 : decode cX2_reckonCarry 10 = .ok (.putfield 53, 3) := by decide +kernel
theorem dX2_reckonCarry_13 : decode cX2_reckonCarry 13 = .ok (.aload_n 0, 1) := by decide +kernel
theorem dX2_reckonCarry_14 : decode cX2_reckonCarry 14 = .ok (.iconst 0, 1) := by decide +kernel
theorem dX2_reckonCarry_15 : decode cX2_reckonCarry 15 = .ok (.putfield 121, 3) := by decide +kernel
theorem dX2_reckonCarry_18 : decode cX2_reckonCarry 18 = .ok (.iconst 0, 1) := by decide +kernel
theorem dX2_reckonCarry_19 : decode cX2_reckonCarry 19 = .ok (.istore_n 1, 1) := by decide +kernel
theorem dX2_reckonCarry_20 : decode cX2_reckonCarry 20 = .ok (.iload_n 1, 1) := by decide +kernel
theorem dX2_reckonCarry_21 : decode cX2_reckonCarry 21 = .ok (.sipush 500, 3) := by decide +kernel
theorem dX2_reckonCarry_24 : decode cX2_reckonCarry 24 = .ok (.if_icmp .gt 64, 3) := by decide +kernel
theorem dX2_reckonCarry_27 : decode cX2_reckonCarry 27 = .ok (.aload_n 0, 1) := by decide +kernel
theorem dX2_reckonCarry_28 : decode cX2_reckonCarry 28 = .ok (.aload_n 0, 1) := by decide +kernel
theorem dX2_reckonCarry_29 : decode cX2_reckonCarry 29 = .ok (.getfield 12, 3) := by decide +kernel
theorem dX2_reckonCarry_32 : decode cX2_reckonCarry 32 = .ok (.aload_n 0, 1) := by decide +kernel
theorem dX2_reckonCarry_33 : decode cX2_reckonCarry 33 = .ok (.getfield 35, 3) := by decide +kernel
theorem dX2_reckonCarry_36 : decode cX2_reckonCarry 36 = .ok (.getfield 124, 3) := by decide +kernel
theorem dX2_reckonCarry_39 : decode cX2_reckonCarry 39 = .ok (.iload_n 1, 1) := by decide +kernel
theorem dX2_reckonCarry_40 : decode cX2_reckonCarry 40 = .ok (.iadd, 1) := by decide +kernel
theorem dX2_reckonCarry_41 : decode cX2_reckonCarry 41 = .ok (.invokevirtual 127, 3) := by decide +kernel
theorem dX2_reckonCarry_44 : decode cX2_reckonCarry 44 = .ok (.istore_n 2, 1) := by decide +kernel
theorem dX2_reckonCarry_45 : decode cX2_reckonCarry 45 = .ok (.aload_n 0, 1) := by decide +kernel
theorem dX2_reckonCarry_46 : decode cX2_reckonCarry 46 = .ok (.getfield 35, 3) := by decide +kernel
theorem dX2_reckonCarry_49 : decode cX2_reckonCarry 49 = .ok (.iload_n 2, 1) := by decide +kernel
theorem dX2_reckonCarry_50 : decode cX2_reckonCarry 50 = .ok (.aload_n 0, 1) := by decide +kernel
theorem dX2_reckonCarry_51 : decode cX2_reckonCarry 51 = .ok (.getfield 35, 3) := by decide +kernel
theorem dX2_reckonCarry_54 : decode cX2_reckonCarry 54 = .ok (.getfield 124, 3) := by decide +kernel
theorem dX2_reckonCarry_57 : decode cX2_reckonCarry 57 = .ok (.iload_n 1, 1) := by decide +kernel
theorem dX2_reckonCarry_58 : decode cX2_reckonCarry 58 = .ok (.iadd, 1) := by decide +kernel
theorem dX2_reckonCarry_59 : decode cX2_reckonCarry 59 = .ok (.invokevirtual 131, 3) := by decide +kernel
theorem dX2_reckonCarry_62 : decode cX2_reckonCarry 62 = .ok (.ifCond .eq 6, 3) := by decide +kernel
theorem dX2_reckonCarry_65 : decode cX2_reckonCarry 65 = .ok (.goto 23, 3) := by decide +kernel
theorem dX2_reckonCarry_68 : decode cX2_reckonCarry 68 = .ok (.aload_n 0, 1) := by decide +kernel
theorem dX2_reckonCarry_69 : decode cX2_reckonCarry 69 = .ok (.getfield 28, 3) := by decide +kernel
theorem dX2_reckonCarry_72 : decode cX2_reckonCarry 72 = .ok (.iload_n 1, 1) := by decide +kernel
theorem dX2_reckonCarry_73 : decode cX2_reckonCarry 73 = .ok (.iload_n 2, 1) := by decide +kernel
theorem dX2_reckonCarry_74 : decode cX2_reckonCarry 74 = .ok (.iastore, 1) := by decide +kernel
theorem dX2_reckonCarry_75 : decode cX2_reckonCarry 75 = .ok (.aload_n 0, 1) := by decide +kernel
theorem dX2_reckonCarry_76 : decode cX2_reckonCarry 76 = .ok (.iload_n 1, 1) := by decide +kernel
theorem dX2_reckonCarry_77 : decode cX2_reckonCarry 77 = .ok (.iconst 1, 1) := by decide +kernel
theorem dX2_reckonCarry_78 : decode cX2_reckonCarry 78 = .ok (.iadd, 1) := by decide +kernel
theorem dX2_reckonCarry_79 : decode cX2_reckonCarry 79 = .ok (.putfield 121, 3) := by decide +kernel
theorem dX2_reckonCarry_82 : decode cX2_reckonCarry 82 = .ok (.iinc 1 1, 3) := by decide +kernel
theorem dX2_reckonCarry_85 : decode cX2_reckonCarry 85 = .ok (.goto (-65), 3) := by decide +kernel
theorem dX2_reckonCarry_88 : decode cX2_reckonCarry 88 = .ok (.return_, 1) := by decide +kernel
theorem dX2_reckonTo_0 : decode cX2_reckonTo 0 = .ok (.aload_n 2, 1) := by decide +kernel
theorem dX2_reckonTo_1 : decode cX2_reckonTo 1 = .ok (.ldc 134, 2) := by decide +kernel
theorem dX2_reckonTo_3 : decode cX2_reckonTo 3 = .ok (.invokestatic 135, 3) := by decide +kernel
theorem dX2_reckonTo_6 : decode cX2_reckonTo 6 = .ok (.iconst 0, 1) := by decide +kernel
theorem dX2_reckonTo_7 : decode cX2_reckonTo 7 = .ok (.istore_n 3, 1) := by decide +kernel
theorem dX2_reckonTo_8 : decode cX2_reckonTo 8 = .ok (.iload_n 3, 1) := by decide +kernel
theorem dX2_reckonTo_9 : decode cX2_reckonTo 9 = .ok (.bipush 7, 2) := by decide +kernel
theorem dX2_reckonTo_11 : decode cX2_reckonTo 11 = .ok (.if_icmp .ge 23, 3) := by decide +kernel
theorem dX2_reckonTo_14 : decode cX2_reckonTo 14 = .ok (.aload_n 2, 1) := by decide +kernel
theorem dX2_reckonTo_15 : decode cX2_reckonTo 15 = .ok (.iload_n 1, 1) := by decide +kernel
theorem dX2_reckonTo_16 : decode cX2_reckonTo 16 = .ok (.iload_n 3, 1) := by decide +kernel
theorem dX2_reckonTo_17 : decode cX2_reckonTo 17 = .ok (.invokestatic 112, 3) := by decide +kernel
theorem dX2_reckonTo_20 : decode cX2_reckonTo 20 = .ok (.aload_n 0, 1) := by decide +kernel
theorem dX2_reckonTo_21 : decode cX2_reckonTo 21 = .ok (.getfield 35, 3) := by decide +kernel
theorem dX2_reckonTo_24 : decode cX2_reckonTo 24 = .ok (.getfield 124, 3) := by decide +kernel
theorem dX2_reckonTo_27 : decode cX2_reckonTo 27 = .ok (.iastore, 1) := by decide +kernel
theorem dX2_reckonTo_28 : decode cX2_reckonTo 28 = .ok (.iinc 3 1, 3) := by decide +kernel
theorem dX2_reckonTo_31 : decode cX2_reckonTo 31 = .ok (.goto (-23), 3) := by decide +kernel
theorem dX2_reckonTo_34 : decode cX2_reckonTo 34 = .ok (.iconst 1, 1) := by decide +kernel
theorem dX2_reckonTo_35 : decode cX2_reckonTo 35 = .ok (.istore_n 3, 1) := by decide +kernel
theorem dX2_reckonTo_36 : decode cX2_reckonTo 36 = .ok (.iconst 0, 1) := by decide +kernel
theorem dX2_reckonTo_37 : decode cX2_reckonTo 37 = .ok (.istore 4, 2) := by decide +kernel
theorem dX2_reckonTo_39 : decode cX2_reckonTo 39 = .ok (.iload 4, 2) := by decide +kernel
theorem dX2_reckonTo_41 : decode cX2_reckonTo 41 = .ok (.bipush 10, 2) := by decide +kernel
theorem dX2_reckonTo_43 : decode cX2_reckonTo 43 = .ok (.if_icmp .ge 66, 3) := by decide +kernel
theorem dX2_reckonTo_46 : decode cX2_reckonTo 46 = .ok (.iload_n 3, 1) := by decide +kernel
theorem dX2_reckonTo_47 : decode cX2_reckonTo 47 = .ok (.ifCond .eq 62, 3) := by decide +kernel
theorem dX2_reckonTo_50 : decode cX2_reckonTo 50 = .ok (.iconst 0, 1) := by decide +kernel
theorem dX2_reckonTo_51 : decode cX2_reckonTo 51 = .ok (.istore_n 3, 1) := by decide +kernel
theorem dX2_reckonTo_52 : decode cX2_reckonTo 52 = .ok (.iconst 0, 1) := by decide +kernel
theorem dX2_reckonTo_53 : decode cX2_reckonTo 53 = .ok (.istore 5, 2) := by decide +kernel
theorem dX2_reckonTo_55 : decode cX2_reckonTo 55 = .ok (.iload 5, 2) := by decide +kernel
theorem dX2_reckonTo_57 : decode cX2_reckonTo 57 = .ok (.aload_n 0, 1) := by decide +kernel
theorem dX2_reckonTo_58 : decode cX2_reckonTo 58 = .ok (.getfield 31, 3) := by decide +kernel
theorem dX2_reckonTo_61 : decode cX2_reckonTo 61 = .ok (.getfield 56, 3) := by decide +kernel
theorem dX2_reckonTo_64 : decode cX2_reckonTo 64 = .ok (.if_icmp .ge 39, 3) := by decide +kernel
theorem dX2_reckonTo_67 : decode cX2_reckonTo 67 = .ok (.iconst 0, 1) := by decide +kernel
theorem dX2_reckonTo_68 : decode cX2_reckonTo 68 = .ok (.istore 6, 2) := by decide +kernel
theorem dX2_reckonTo_70 : decode cX2_reckonTo 70 = .ok (.iload 6, 2) := by decide +kernel
theorem dX2_reckonTo_72 : decode cX2_reckonTo 72 = .ok (.bipush 6, 2) := by decide +kernel
theorem dX2_reckonTo_74 : decode cX2_reckonTo 74 = .ok (.if_icmp .ge 23, 3) := by decide +kernel
theorem dX2_reckonTo_77 : decode cX2_reckonTo 77 = .ok (.aload_n 0, 1) := by decide +kernel
theorem dX2_reckonTo_78 : decode cX2_reckonTo 78 = .ok (.iload 5, 2) := by decide +kernel
theorem dX2_reckonTo_80 : decode cX2_reckonTo 80 = .ok (.iload 6, 2) := by decide +kernel
theorem dX2_reckonTo_82 : decode cX2_reckonTo 82 = .ok (.aload_n 2, 1) := by decide +kernel
theorem dX2_reckonTo_83 : decode cX2_reckonTo 83 = .ok (.invokevirtual 141, 3) := by decide +kernel
theorem dX2_reckonTo_86 : decode cX2_reckonTo 86 = .ok (.ifCond .eq 5, 3) := by decide +kernel
theorem dX2_reckonTo_89 : decode cX2_reckonTo 89 = .ok (.iconst 1, 1) := by decide +kernel
theorem dX2_reckonTo_90 : decode cX2_reckonTo 90 = .ok (.istore_n 3, 1) := by decide +kernel
theorem dX2_reckonTo_91 : decode cX2_reckonTo 91 = .ok (.iinc 6 1, 3) := by decide +kernel
theorem dX2_reckonTo_94 : decode cX2_reckonTo 94 = .ok (.goto (-24), 3) := by decide +kernel
theorem dX2_reckonTo_97 : decode cX2_reckonTo 97 = .ok (.iinc 5 1, 3) := by decide +kernel
theorem dX2_reckonTo_100 : decode cX2_reckonTo 100 = .ok (.goto (-45), 3) := by decide +kernel
theorem dX2_reckonTo_103 : decode cX2_reckonTo 103 = .ok (.iinc 4 1, 3) := by decide +kernel
theorem dX2_reckonTo_106 : decode cX2_reckonTo 106 = .ok (.goto (-67), 3) := by decide +kernel
theorem dX2_reckonTo_109 : decode cX2_reckonTo 109 = .ok (.return_, 1) := by decide +kernel
theorem dX2_lower_0 : decode cX2_lower 0 = .ok (.aload_n 0, 1) := by decide +kernel
theorem dX2_lower_1 : decode cX2_lower 1 = .ok (.iload_n 1, 1) := by decide +kernel
theorem dX2_lower_2 : decode cX2_lower 2 = .ok (.iload_n 2, 1) := by decide +kernel
theorem dX2_lower_3 : decode cX2_lower 3 = .ok (.aload_n 3, 1) := by decide +kernel
theorem dX2_lower_4 : decode cX2_lower 4 = .ok (.invokevirtual 145, 3) := by decide +kernel
theorem dX2_lower_7 : decode cX2_lower 7 = .ok (.istore 4, 2) := by decide +kernel
theorem dX2_lower_9 : decode cX2_lower 9 = .ok (.iload 4, 2) := by decide +kernel
theorem dX2_lower_11 : decode cX2_lower 11 = .ok (.ldc 134, 2) := by decide +kernel
theorem dX2_lower_13 : decode cX2_lower 13 = .ok (.if_icmp .ne 5, 3) := by decide +kernel
theorem dX2_lower_16 : decode cX2_lower 16 = .ok (.iconst 0, 1) := by decide +kernel
theorem dX2_lower_17 : decode cX2_lower 17 = .ok (.ireturn, 1) := by decide +kernel
theorem dX2_lower_18 : decode cX2_lower 18 = .ok (.iconst 0, 1) := by decide +kernel
theorem dX2_lower_19 : decode cX2_lower 19 = .ok (.istore 5, 2) := by decide +kernel
theorem dX2_lower_21 : decode cX2_lower 21 = .ok (.iconst 0, 1) := by decide +kernel
theorem dX2_lower_22 : decode cX2_lower 22 = .ok (.istore 6, 2) := by decide +kernel
theorem dX2_lower_24 : decode cX2_lower 24 = .ok (.iload 6, 2) := by decide +kernel
theorem dX2_lower_26 : decode cX2_lower 26 = .ok (.bipush 7, 2) := by decide +kernel
theorem dX2_lower_28 : decode cX2_lower 28 = .ok (.if_icmp .ge 58, 3) := by decide +kernel
theorem dX2_lower_31 : decode cX2_lower 31 = .ok (.aload_n 0, 1) := by decide +kernel
theorem dX2_lower_32 : decode cX2_lower 32 = .ok (.getfield 31, 3) := by decide +kernel
theorem dX2_lower_35 : decode cX2_lower 35 = .ok (.getfield 149, 3) := by decide +kernel
theorem dX2_lower_38 : decode cX2_lower 38 = .ok (.iload_n 1, 1) := by decide +kernel
theorem dX2_lower_39 : decode cX2_lower 39 = .ok (.iaload, 1) := by decide +kernel
theorem dX2_lower_40 : decode cX2_lower 40 = .ok (.iload 6, 2) := by decide +kernel
theorem dX2_lower_42 : decode cX2_lower 42 = .ok (.invokestatic 112, 3) := by decide +kernel
theorem dX2_lower_45 : decode cX2_lower 45 = .ok (.istore 7, 2) := by decide +kernel
theorem dX2_lower_47 : decode cX2_lower 47 = .ok (.iload 4, 2) := by decide +kernel
theorem dX2_lower_49 : decode cX2_lower 49 = .ok (.aload_n 0, 1) := by decide +kernel
theorem dX2_lower_50 : decode cX2_lower 50 = .ok (.getfield 31, 3) := by decide +kernel
theorem dX2_lower_53 : decode cX2_lower 53 = .ok (.iload_n 2, 1) := by decide +kernel
theorem dX2_lower_54 : decode cX2_lower 54 = .ok (.iload 6, 2) := by decide +kernel
theorem dX2_lower_56 : decode cX2_lower 56 = .ok (.invokevirtual 98, 3) := by decide +kernel
theorem dX2_lower_59 : decode cX2_lower 59 = .ok (.iadd, 1) := by decide +kernel
theorem dX2_lower_60 : decode cX2_lower 60 = .ok (.istore 8, 2) := by decide +kernel
theorem dX2_lower_62 : decode cX2_lower 62 = .ok (.iload 8, 2) := by decide +kernel
theorem dX2_lower_64 : decode cX2_lower 64 = .ok (.aload_n 3, 1) := by decide +kernel
theorem dX2_lower_65 : decode cX2_lower 65 = .ok (.iload 7, 2) := by decide +kernel
theorem dX2_lower_67 : decode cX2_lower 67 = .ok (.iaload, 1) := by decide +kernel
theorem dX2_lower_68 : decode cX2_lower 68 = .ok (.if_icmp .ge 12, 3) := by decide +kernel
theorem dX2_lower_71 : decode cX2_lower 71 = .ok (.aload_n 3, 1) := by decide +kernel
theorem dX2_lower_72 : decode cX2_lower 72 = .ok (.iload 7, 2) := by decide +kernel
theorem dX2_lower_74 : decode cX2_lower 74 = .ok (.iload 8, 2) := by decide +kernel
theorem dX2_lower_76 : decode cX2_lower 76 = .ok (.iastore, 1) := by decide +kernel
theorem dX2_lower_77 : decode cX2_lower 77 = .ok (.iconst 1, 1) := by decide +kernel
theorem dX2_lower_78 : decode cX2_lower 78 = .ok (.istore 5, 2) := by decide +kernel
theorem dX2_lower_80 : decode cX2_lower 80 = .ok (.iinc 6 1, 3) := by decide +kernel
theorem dX2_lower_83 : decode cX2_lower 83 = .ok (.goto (-59), 3) := by decide +kernel
theorem dX2_lower_86 : decode cX2_lower 86 = .ok (.iload 5, 2) := by decide +kernel
theorem dX2_lower_88 : decode cX2_lower 88 = .ok (.ireturn, 1) := by decide +kernel
theorem dX2_aheadOf_0 : decode cX2_aheadOf 0 = .ok (.aload_n 0, 1) := by decide +kernel
theorem dX2_aheadOf_1 : decode cX2_aheadOf 1 = .ok (.getfield 18, 3) := by decide +kernel
theorem dX2_aheadOf_4 : decode cX2_aheadOf 4 = .ok (.iload_n 1, 1) := by decide +kernel
theorem dX2_aheadOf_5 : decode cX2_aheadOf 5 = .ok (.iload_n 2, 1) := by decide +kernel
theorem dX2_aheadOf_6 : decode cX2_aheadOf 6 = .ok (.invokestatic 61, 3) := by decide +kernel
theorem dX2_aheadOf_9 : decode cX2_aheadOf 9 = .ok (.iaload, 1) := by decide +kernel
theorem dX2_aheadOf_10 : decode cX2_aheadOf 10 = .ok (.istore 4, 2) := by decide +kernel
theorem dX2_aheadOf_12 : decode cX2_aheadOf 12 = .ok (.aload_n 3, 1) := by decide +kernel
theorem dX2_aheadOf_13 : decode cX2_aheadOf 13 = .ok (.aload_n 0, 1) := by decide +kernel
theorem dX2_aheadOf_14 : decode cX2_aheadOf 14 = .ok (.getfield 31, 3) := by decide +kernel
theorem dX2_aheadOf_17 : decode cX2_aheadOf 17 = .ok (.getfield 110, 3) := by decide +kernel
theorem dX2_aheadOf_20 : decode cX2_aheadOf 20 = .ok (.iload_n 1, 1) := by decide +kernel
theorem dX2_aheadOf_21 : decode cX2_aheadOf 21 = .ok (.iaload, 1) := by decide +kernel
theorem dX2_aheadOf_22 : decode cX2_aheadOf 22 = .ok (.iload_n 2, 1) := by decide +kernel
theorem dX2_aheadOf_23 : decode cX2_aheadOf 23 = .ok (.iconst 1, 1) := by decide +kernel
theorem dX2_aheadOf_24 : decode cX2_aheadOf 24 = .ok (.iadd, 1) := by decide +kernel
theorem dX2_aheadOf_25 : decode cX2_aheadOf 25 = .ok (.invokestatic 112, 3) := by decide +kernel
theorem dX2_aheadOf_28 : decode cX2_aheadOf 28 = .ok (.iaload, 1) := by decide +kernel
theorem dX2_aheadOf_29 : decode cX2_aheadOf 29 = .ok (.istore 5, 2) := by decide +kernel
theorem dX2_aheadOf_31 : decode cX2_aheadOf 31 = .ok (.iload 4, 2) := by decide +kernel
theorem dX2_aheadOf_33 : decode cX2_aheadOf 33 = .ok (.iconst (-1), 1) := by decide +kernel
theorem dX2_aheadOf_34 : decode cX2_aheadOf 34 = .ok (.if_icmp .eq 10, 3) := by decide +kernel
theorem dX2_aheadOf_37 : decode cX2_aheadOf 37 = .ok (.iload 5, 2) := by decide +kernel
theorem dX2_aheadOf_39 : decode cX2_aheadOf 39 = .ok (.ldc 134, 2) := by decide +kernel
theorem dX2_aheadOf_41 : decode cX2_aheadOf 41 = .ok (.if_icmp .ne 6, 3) := by decide +kernel
theorem dX2_aheadOf_44 : decode cX2_aheadOf 44 = .ok (.ldc 134, 2) := by decide +kernel
theorem dX2_aheadOf_46 : decode cX2_aheadOf 46 = .ok (.ireturn, 1) := by decide +kernel
theorem dX2_aheadOf_47 : decode cX2_aheadOf 47 = .ok (.iload 5, 2) := by decide +kernel
theorem dX2_aheadOf_49 : decode cX2_aheadOf 49 = .ok (.aload_n 0, 1) := by decide +kernel
theorem dX2_aheadOf_50 : decode cX2_aheadOf 50 = .ok (.getfield 35, 3) := by decide +kernel
theorem dX2_aheadOf_53 : decode cX2_aheadOf 53 = .ok (.iload 4, 2) := by decide +kernel
theorem dX2_aheadOf_55 : decode cX2_aheadOf 55 = .ok (.iload_n 2, 1) := by decide +kernel
theorem dX2_aheadOf_56 : decode cX2_aheadOf 56 = .ok (.iload 5, 2) := by decide +kernel
theorem dX2_aheadOf_58 : decode cX2_aheadOf 58 = .ok (.invokevirtual 115, 3) := by decide +kernel
theorem dX2_aheadOf_61 : decode cX2_aheadOf 61 = .ok (.iadd, 1) := by decide +kernel
theorem dX2_aheadOf_62 : decode cX2_aheadOf 62 = .ok (.ireturn, 1) := by decide +kernel
theorem dX2_findBest_0 : decode cX2_findBest 0 = .ok (.aload_n 0, 1) := by decide +kernel
theorem dX2_findBest_1 : decode cX2_findBest 1 = .ok (.getfield 12, 3) := by decide +kernel
theorem dX2_findBest_4 : decode cX2_findBest 4 = .ok (.iconst 0, 1) := by decide +kernel
theorem dX2_findBest_5 : decode cX2_findBest 5 = .ok (.putfield 81, 3) := by decide +kernel
theorem dX2_findBest_8 : decode cX2_findBest 8 = .ok (.aload_n 0, 1) := by decide +kernel
theorem dX2_findBest_9 : decode cX2_findBest 9 = .ok (.getfield 12, 3) := by decide +kernel
theorem dX2_findBest_12 : decode cX2_findBest 12 = .ok (.aload_n 0, 1) := by decide +kernel
theorem dX2_findBest_13 : decode cX2_findBest 13 = .ok (.getfield 22, 3) := by decide +kernel
theorem dX2_findBest_16 : decode cX2_findBest 16 = .ok (.aload_n 0, 1) := by decide +kernel
theorem dX2_findBest_17 : decode cX2_findBest 17 = .ok (.getfield 35, 3) := by decide +kernel
theorem dX2_findBest_20 : decode cX2_findBest 20 = .ok (.getfield 107, 3) := by decide +kernel
theorem dX2_findBest_23 : decode cX2_findBest 23 = .ok (.iconst 0, 1) := by decide +kernel
theorem dX2_findBest_24 : decode cX2_findBest 24 = .ok (.invokestatic 112, 3) := by decide +kernel
theorem dX2_findBest_27 : decode cX2_findBest 27 = .ok (.iaload, 1) := by decide +kernel
theorem dX2_findBest_28 : decode cX2_findBest 28 = .ok (.putfield 90, 3) := by decide +kernel
theorem dX2_findBest_31 : decode cX2_findBest 31 = .ok (.aload_n 0, 1) := by decide +kernel
theorem dX2_findBest_32 : decode cX2_findBest 32 = .ok (.aload_n 0, 1) := by decide +kernel
theorem dX2_findBest_33 : decode cX2_findBest 33 = .ok (.getfield 12, 3) := by decide +kernel
theorem dX2_findBest_36 : decode cX2_findBest 36 = .ok (.getfield 90, 3) := by decide +kernel
theorem dX2_findBest_39 : decode cX2_findBest 39 = .ok (.ldc 134, 2) := by decide +kernel
theorem dX2_findBest_41 : decode cX2_findBest 41 = .ok (.if_icmp .eq 7, 3) := by decide +kernel
theorem dX2_findBest_44 : decode cX2_findBest 44 = .ok (.iconst 1, 1) := by decide +kernel
theorem dX2_findBest_45 : decode cX2_findBest 45 = .ok (.goto 4, 3) := by decide +kernel
theorem dX2_findBest_48 : decode cX2_findBest 48 = .ok (.iconst 0, 1) := by decide +kernel
theorem dX2_findBest_49 : decode cX2_findBest 49 = .ok (.putfield 43, 3) := by decide +kernel
theorem dX2_findBest_52 : decode cX2_findBest 52 = .ok (.aload_n 0, 1) := by decide +kernel
theorem dX2_findBest_53 : decode cX2_findBest 53 = .ok (.getfield 43, 3) := by decide +kernel
theorem dX2_findBest_56 : decode cX2_findBest 56 = .ok (.ifCond .ne 4, 3) := by decide +kernel
theorem dX2_findBest_59 : decode cX2_findBest 59 = .ok (.return_, 1) := by decide +kernel
theorem dX2_findBest_60 : decode cX2_findBest 60 = .ok (.aload_n 0, 1) := by decide +kernel
theorem dX2_findBest_61 : decode cX2_findBest 61 = .ok (.getfield 35, 3) := by decide +kernel
theorem dX2_findBest_64 : decode cX2_findBest 64 = .ok (.getfield 107, 3) := by decide +kernel
theorem dX2_findBest_67 : decode cX2_findBest 67 = .ok (.istore_n 1, 1) := by decide +kernel
theorem dX2_findBest_68 : decode cX2_findBest 68 = .ok (.aload_n 0, 1) := by decide +kernel
theorem dX2_findBest_69 : decode cX2_findBest 69 = .ok (.getfield 12, 3) := by decide +kernel
theorem dX2_findBest_72 : decode cX2_findBest 72 = .ok (.getfield 90, 3) := by decide +kernel
theorem dX2_findBest_75 : decode cX2_findBest 75 = .ok (.istore_n 2, 1) := by decide +kernel
theorem dX2_findBest_76 : decode cX2_findBest 76 = .ok (.iconst 0, 1) := by decide +kernel
theorem dX2_findBest_77 : decode cX2_findBest 77 = .ok (.istore_n 3, 1) := by decide +kernel
theorem dX2_findBest_78 : decode cX2_findBest 78 = .ok (.iload_n 3, 1) := by decide +kernel
theorem dX2_findBest_79 : decode cX2_findBest 79 = .ok (.bipush 16, 2) := by decide +kernel
theorem dX2_findBest_81 : decode cX2_findBest 81 = .ok (.if_icmp .ge 102, 3) := by decide +kernel
theorem dX2_findBest_84 : decode cX2_findBest 84 = .ok (.iload_n 1, 1) := by decide +kernel
theorem dX2_findBest_85 : decode cX2_findBest 85 = .ok (.aload_n 0, 1) := by decide +kernel
theorem dX2_findBest_86 : decode cX2_findBest 86 = .ok (.getfield 35, 3) := by decide +kernel
theorem dX2_findBest_89 : decode cX2_findBest 89 = .ok (.getfield 71, 3) := by decide +kernel
theorem dX2_findBest_92 : decode cX2_findBest 92 = .ok (.if_icmp .eq 91, 3) := by decide +kernel
theorem dX2_findBest_95 : decode cX2_findBest 95 = .ok (.aload_n 0, 1) := by decide +kernel
theorem dX2_findBest_96 : decode cX2_findBest 96 = .ok (.iload_n 1, 1) := by decide +kernel
theorem dX2_findBest_97 : decode cX2_findBest 97 = .ok (.aload_n 0, 1) := by decide +kernel
theorem dX2_findBest_98 : decode cX2_findBest 98 = .ok (.getfield 12, 3) := by decide +kernel
theorem dX2_findBest_101 : decode cX2_findBest 101 = .ok (.aload_n 0, 1) := by decide +kernel
theorem dX2_findBest_102 : decode cX2_findBest 102 = .ok (.getfield 12, 3) := by decide +kernel
theorem dX2_findBest_105 : decode cX2_findBest 105 = .ok (.getfield 81, 3) := by decide +kernel
theorem dX2_findBest_108 : decode cX2_findBest 108 = .ok (.invokevirtual 94, 3) := by decide +kernel
theorem dX2_findBest_111 : decode cX2_findBest 111 = .ok (.iload_n 2, 1) := by decide +kernel
theorem dX2_findBest_112 : decode cX2_findBest 112 = .ok (.invokevirtual 151, 3) := by decide +kernel
theorem dX2_findBest_115 : decode cX2_findBest 115 = .ok (.istore 4, 2) := by decide +kernel
theorem dX2_findBest_117 : decode cX2_findBest 117 = .ok (.iload 4, 2) := by decide +kernel
theorem dX2_findBest_119 : decode cX2_findBest 119 = .ok (.iconst (-1), 1) := by decide +kernel
theorem dX2_findBest_120 : decode cX2_findBest 120 = .ok (.if_icmp .ne 6, 3) := by decide +kernel
theorem dX2_findBest_123 : decode cX2_findBest 123 = .ok (.goto 60, 3) := by decide +kernel
theorem dX2_findBest_126 : decode cX2_findBest 126 = .ok (.iload 4, 2) := by decide +kernel
theorem dX2_findBest_128 : decode cX2_findBest 128 = .ok (.bipush 6, 2) := by decide +kernel
theorem dX2_findBest_130 : decode cX2_findBest 130 = .ok (.idiv, 1) := by decide +kernel
theorem dX2_findBest_131 : decode cX2_findBest 131 = .ok (.istore 5, 2) := by decide +kernel
theorem dX2_findBest_133 : decode cX2_findBest 133 = .ok (.iload 4, 2) := by decide +kernel
theorem dX2_findBest_135 : decode cX2_findBest 135 = .ok (.bipush 6, 2) := by decide +kernel
theorem dX2_findBest_137 : decode cX2_findBest 137 = .ok (.irem, 1) := by decide +kernel
theorem dX2_findBest_138 : decode cX2_findBest 138 = .ok (.istore 6, 2) := by decide +kernel
theorem dX2_findBest_140 : decode cX2_findBest 140 = .ok (.aload_n 0, 1) := by decide +kernel
theorem dX2_findBest_141 : decode cX2_findBest 141 = .ok (.getfield 31, 3) := by decide +kernel
theorem dX2_findBest_144 : decode cX2_findBest 144 = .ok (.getfield 110, 3) := by decide +kernel
theorem dX2_findBest_147 : decode cX2_findBest 147 = .ok (.iload 5, 2) := by decide +kernel
theorem dX2_findBest_149 : decode cX2_findBest 149 = .ok (.iaload, 1) := by decide +kernel
theorem dX2_findBest_150 : decode cX2_findBest 150 = .ok (.istore_n 1, 1) := by decide +kernel
theorem dX2_findBest_151 : decode cX2_findBest 151 = .ok (.aload_n 0, 1) := by decide +kernel
theorem dX2_findBest_152 : decode cX2_findBest 152 = .ok (.getfield 22, 3) := by decide +kernel
theorem dX2_findBest_155 : decode cX2_findBest 155 = .ok (.iload_n 1, 1) := by decide +kernel
theorem dX2_findBest_156 : decode cX2_findBest 156 = .ok (.iload 6, 2) := by decide +kernel
theorem dX2_findBest_158 : decode cX2_findBest 158 = .ok (.iconst 1, 1) := by decide +kernel
theorem dX2_findBest_159 : decode cX2_findBest 159 = .ok (.iadd, 1) := by decide +kernel
theorem dX2_findBest_160 : decode cX2_findBest 160 = .ok (.invokestatic 112, 3) := by decide +kernel
theorem dX2_findBest_163 : decode cX2_findBest 163 = .ok (.iaload, 1) := by decide +kernel
theorem dX2_findBest_164 : decode cX2_findBest 164 = .ok (.istore_n 2, 1) := by decide +kernel
theorem dX2_findBest_165 : decode cX2_findBest 165 = .ok (.aload_n 0, 1) := by decide +kernel
theorem dX2_findBest_166 : decode cX2_findBest 166 = .ok (.getfield 12, 3) := by decide +kernel
theorem dX2_findBest_169 : decode cX2_findBest 169 = .ok (.iload 5, 2) := by decide +kernel
theorem dX2_findBest_171 : decode cX2_findBest 171 = .ok (.iload 6, 2) := by decide +kernel
theorem dX2_findBest_173 : decode cX2_findBest 173 = .ok (.iload_n 2, 1) := by decide +kernel
theorem dX2_findBest_174 : decode cX2_findBest 174 = .ok (.invokevirtual 154, 3) := by decide +kernel
theorem dX2_findBest_177 : decode cX2_findBest 177 = .ok (.iinc 3 1, 3) := by decide +kernel
theorem dX2_findBest_180 : decode cX2_findBest 180 = .ok (.goto (-102), 3) := by decide +kernel
theorem dX2_findBest_183 : decode cX2_findBest 183 = .ok (.return_, 1) := by decide +kernel
theorem dX2_firstThatKeeps_0 : decode cX2_firstThatKeeps 0 = .ok (.iconst 0, 1) := by decide +kernel
theorem dX2_firstThatKeeps_1 : decode cX2_firstThatKeeps 1 = .ok (.istore 4, 2) := by decide +kernel
theorem dX2_firstThatKeeps_3 : decode cX2_firstThatKeeps 3 = .ok (.iload 4, 2) := by decide +kernel
theorem dX2_firstThatKeeps_5 : decode cX2_firstThatKeeps 5 = .ok (.aload_n 0, 1) := by decide +kernel
theorem dX2_firstThatKeeps_6 : decode cX2_firstThatKeeps 6 = .ok (.getfield 31, 3) := by decide +kernel
theorem dX2_firstThatKeeps_9 : decode cX2_firstThatKeeps 9 = .ok (.getfield 56, 3) := by decide +kernel
theorem dX2_firstThatKeeps_12 : decode cX2_firstThatKeeps 12 = .ok (.if_icmp .ge 77, 3) := by decide +kernel
theorem dX2_firstThatKeeps_15 : decode cX2_firstThatKeeps 15 = .ok (.aload_n 0, 1) := by decide +kernel
theorem dX2_firstThatKeeps_16 : decode cX2_firstThatKeeps 16 = .ok (.getfield 31, 3) := by decide +kernel
theorem dX2_firstThatKeeps_19 : decode cX2_firstThatKeeps 19 = .ok (.getfield 149, 3) := by decide +kernel
theorem dX2_firstThatKeeps_22 : decode cX2_firstThatKeeps 22 = .ok (.iload 4, 2) := by decide +kernel
theorem dX2_firstThatKeeps_24 : decode cX2_firstThatKeeps 24 = .ok (.iaload, 1) := by decide +kernel
theorem dX2_firstThatKeeps_25 : decode cX2_firstThatKeeps 25 = .ok (.iload_n 1, 1) := by decide +kernel
theorem dX2_firstThatKeeps_26 : decode cX2_firstThatKeeps 26 = .ok (.if_icmp .eq 6, 3) := by decide +kernel
theorem dX2_firstThatKeeps_29 : decode cX2_firstThatKeeps 29 = .ok (.goto 54, 3) := by decide +kernel
theorem dX2_firstThatKeeps_32 : decode cX2_firstThatKeeps 32 = .ok (.iconst 0, 1) := by decide +kernel
theorem dX2_firstThatKeeps_33 : decode cX2_firstThatKeeps 33 = .ok (.istore 5, 2) := by decide +kernel
theorem dX2_firstThatKeeps_35 : decode cX2_firstThatKeeps 35 = .ok (.iload 5, 2) := by decide +kernel
theorem dX2_firstThatKeeps_37 : decode cX2_firstThatKeeps 37 = .ok (.bipush 6, 2) := by decide +kernel
theorem dX2_firstThatKeeps_39 : decode cX2_firstThatKeeps 39 = .ok (.if_icmp .ge 44, 3) := by decide +kernel
theorem dX2_firstThatKeeps_42 : decode cX2_firstThatKeeps 42 = .ok (.aload_n 0, 1) := by decide +kernel
theorem dX2_firstThatKeeps_43 : decode cX2_firstThatKeeps 43 = .ok (.iload 4, 2) := by decide +kernel
theorem dX2_firstThatKeeps_45 : decode cX2_firstThatKeeps 45 = .ok (.iload 5, 2) := by decide +kernel
theorem dX2_firstThatKeeps_47 : decode cX2_firstThatKeeps 47 = .ok (.aload_n 0, 1) := by decide +kernel
theorem dX2_firstThatKeeps_48 : decode cX2_firstThatKeeps 48 = .ok (.getfield 22, 3) := by decide +kernel
theorem dX2_firstThatKeeps_51 : decode cX2_firstThatKeeps 51 = .ok (.invokevirtual 145, 3) := by decide +kernel
theorem dX2_firstThatKeeps_54 : decode cX2_firstThatKeeps 54 = .ok (.aload_n 0, 1) := by decide +kernel
theorem dX2_firstThatKeeps_55 : decode cX2_firstThatKeeps 55 = .ok (.getfield 31, 3) := by decide +kernel
theorem dX2_firstThatKeeps_58 : decode cX2_firstThatKeeps 58 = .ok (.iload 5, 2) := by decide +kernel
theorem dX2_firstThatKeeps_60 : decode cX2_firstThatKeeps 60 = .ok (.iload_n 2, 1) := by decide +kernel
theorem dX2_firstThatKeeps_61 : decode cX2_firstThatKeeps 61 = .ok (.invokevirtual 98, 3) := by decide +kernel
theorem dX2_firstThatKeeps_64 : decode cX2_firstThatKeeps 64 = .ok (.iadd, 1) := by decide +kernel
theorem dX2_firstThatKeeps_65 : decode cX2_firstThatKeeps 65 = .ok (.iload_n 3, 1) := by decide +kernel
theorem dX2_firstThatKeeps_66 : decode cX2_firstThatKeeps 66 = .ok (.if_icmp .ne 11, 3) := by decide +kernel
theorem dX2_firstThatKeeps_69 : decode cX2_firstThatKeeps 69 = .ok (.iload 4, 2) := by decide +kernel
theorem dX2_firstThatKeeps_71 : decode cX2_firstThatKeeps 71 = .ok (.iload 5, 2) := by decide +kernel
theorem dX2_firstThatKeeps_73 : decode cX2_firstThatKeeps 73 = .ok (.invokestatic 61, 3) := by decide +kernel
theorem dX2_firstThatKeeps_76 : decode cX2_firstThatKeeps 76 = .ok (.ireturn, 1) := by decide +kernel
theorem dX2_firstThatKeeps_77 : decode cX2_firstThatKeeps 77 = .ok (.iinc 5 1, 3) := by decide +kernel
theorem dX2_firstThatKeeps_80 : decode cX2_firstThatKeeps 80 = .ok (.goto (-45), 3) := by decide +kernel
theorem dX2_firstThatKeeps_83 : decode cX2_firstThatKeeps 83 = .ok (.iinc 4 1, 3) := by decide +kernel
theorem dX2_firstThatKeeps_86 : decode cX2_firstThatKeeps 86 = .ok (.goto (-83), 3) := by decide +kernel
theorem dX2_firstThatKeeps_89 : decode cX2_firstThatKeeps 89 = .ok (.iconst (-1), 1) := by decide +kernel
theorem dX2_firstThatKeeps_90 : decode cX2_firstThatKeeps 90 = .ok (.ireturn, 1) := by decide +kernel
theorem dX3_init_0 : decode cX3_init 0 = .ok (.aload_n 0, 1) := by decide +kernel
theorem dX3_init_1 : decode cX3_init 1 = .ok (.invokespecial 3, 3) := by decide +kernel
theorem dX3_init_4 : decode cX3_init 4 = .ok (.aload_n 0, 1) := by decide +kernel
theorem dX3_init_5 : decode cX3_init 5 = .ok (.new 9, 3) := by decide +kernel
theorem dX3_init_8 : decode cX3_init 8 = .ok (.dup, 1) := by decide +kernel
theorem dX3_init_9 : decode cX3_init 9 = .ok (.aload_n 1, 1) := by decide +kernel
theorem dX3_init_10 : decode cX3_init 10 = .ok (.invokespecial 11, 3) := by decide +kernel
theorem dX3_init_13 : decode cX3_init 13 = .ok (.putfield 14, 3) := by decide +kernel
theorem dX3_init_16 : decode cX3_init 16 = .ok (.aload_n 0, 1) := by decide +kernel
theorem dX3_init_17 : decode cX3_init 17 = .ok (.new 20, 3) := by decide +kernel
theorem dX3_init_20 : decode cX3_init 20 = .ok (.dup, 1) := by decide +kernel
theorem dX3_init_21 : decode cX3_init 21 = .ok (.invokespecial 22, 3) := by decide +kernel
theorem dX3_init_24 : decode cX3_init 24 = .ok (.putfield 23, 3) := by decide +kernel
theorem dX3_init_27 : decode cX3_init 27 = .ok (.aload_n 0, 1) := by decide +kernel
theorem dX3_init_28 : decode cX3_init 28 = .ok (.iconst 0, 1) := by decide +kernel
theorem dX3_init_29 : decode cX3_init 29 = .ok (.putfield 27, 3) := by decide +kernel
theorem dX3_init_32 : decode cX3_init 32 = .ok (.aload_n 0, 1) := by decide +kernel
theorem dX3_init_33 : decode cX3_init 33 = .ok (.iconst (-1), 1) := by decide +kernel
theorem dX3_init_34 : decode cX3_init 34 = .ok (.putfield 31, 3) := by decide +kernel
theorem dX3_init_37 : decode cX3_init 37 = .ok (.return_, 1) := by decide +kernel
theorem dX3_readTape_0 : decode cX3_readTape 0 = .ok (.aload_n 0, 1) := by decide +kernel
theorem dX3_readTape_1 : decode cX3_readTape 1 = .ok (.getfield 14, 3) := by decide +kernel
theorem dX3_readTape_4 : decode cX3_readTape 4 = .ok (.invokevirtual 34, 3) := by decide +kernel
theorem dX3_readTape_7 : decode cX3_readTape 7 = .ok (.aload_n 0, 1) := by decide +kernel
theorem dX3_readTape_8 : decode cX3_readTape 8 = .ok (.getfield 23, 3) := by decide +kernel
theorem dX3_readTape_11 : decode cX3_readTape 11 = .ok (.invokevirtual 37, 3) := by decide +kernel
theorem dX3_readTape_14 : decode cX3_readTape 14 = .ok (.aload_n 0, 1) := by decide +kernel
theorem dX3_readTape_15 : decode cX3_readTape 15 = .ok (.iconst 0, 1) := by decide +kernel
