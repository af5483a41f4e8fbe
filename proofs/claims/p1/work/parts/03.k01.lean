theorem dX4_scanToken_68 : decode cX4_scanToken 68 = .ok (.iadd, 1) := by decide +kernel
theorem dX4_scanToken_69 : decode cX4_scanToken 69 = .ok (.putfield 29, 3) := by decide +kernel
theorem dX4_scanToken_72 : decode cX4_scanToken 72 = .ok (.iload_n 2, 1) := by decide +kernel
theorem dX4_scanToken_73 : decode cX4_scanToken 73 = .ok (.bipush 59, 2) := by decide +kernel
theorem dX4_scanToken_75 : decode cX4_scanToken 75 = .ok (.if_icmp .ne 7, 3) := by decide +kernel
theorem dX4_scanToken_78 : decode cX4_scanToken 78 = .ok (.iconst 3, 1) := by decide +kernel
theorem dX4_scanToken_79 : decode cX4_scanToken 79 = .ok (.goto 4, 3) := by decide +kernel
theorem dX4_scanToken_82 : decode cX4_scanToken 82 = .ok (.iconst 4, 1) := by decide +kernel
theorem dX4_scanToken_83 : decode cX4_scanToken 83 = .ok (.ireturn, 1) := by decide +kernel
theorem dX5_init_0 : decode cX5_init 0 = .ok (.aload_n 0, 1) := by decide +kernel
theorem dX5_init_1 : decode cX5_init 1 = .ok (.invokespecial 3, 3) := by decide +kernel
theorem dX5_init_4 : decode cX5_init 4 = .ok (.aload_n 0, 1) := by decide +kernel
theorem dX5_init_5 : decode cX5_init 5 = .ok (.sipush 1000, 3) := by decide +kernel
theorem dX5_init_8 : decode cX5_init 8 = .ok (.newarray .int, 2) := by decide +kernel
theorem dX5_init_10 : decode cX5_init 10 = .ok (.putfield 9, 3) := by decide +kernel
theorem dX5_init_13 : decode cX5_init 13 = .ok (.return_, 1) := by decide +kernel
theorem dX5_hasRoomFor_0 : decode cX5_hasRoomFor 0 = .ok (.aload_n 0, 1) := by decide +kernel
theorem dX5_hasRoomFor_1 : decode cX5_hasRoomFor 1 = .ok (.getfield 15, 3) := by decide +kernel
theorem dX5_hasRoomFor_4 : decode cX5_hasRoomFor 4 = .ok (.iload_n 1, 1) := by decide +kernel
theorem dX5_hasRoomFor_5 : decode cX5_hasRoomFor 5 = .ok (.iadd, 1) := by decide +kernel
theorem dX5_hasRoomFor_6 : decode cX5_hasRoomFor 6 = .ok (.sipush 1000, 3) := by decide +kernel
theorem dX5_hasRoomFor_9 : decode cX5_hasRoomFor 9 = .ok (.if_icmp .gt 7, 3) := by decide +kernel
theorem dX5_hasRoomFor_12 : decode cX5_hasRoomFor 12 = .ok (.iconst 1, 1) := by decide +kernel
theorem dX5_hasRoomFor_13 : decode cX5_hasRoomFor 13 = .ok (.goto 4, 3) := by decide +kernel
theorem dX5_hasRoomFor_16 : decode cX5_hasRoomFor 16 = .ok (.iconst 0, 1) := by decide +kernel
theorem dX5_hasRoomFor_17 : decode cX5_hasRoomFor 17 = .ok (.ireturn, 1) := by decide +kernel
theorem dX5_put_0 : decode cX5_put 0 = .ok (.aload_n 0, 1) := by decide +kernel
theorem dX5_put_1 : decode cX5_put 1 = .ok (.iconst 4, 1) := by decide +kernel
theorem dX5_put_2 : decode cX5_put 2 = .ok (.invokevirtual 19, 3) := by decide +kernel
theorem dX5_put_5 : decode cX5_put 5 = .ok (.ifCond .ne 4, 3) := by decide +kernel
theorem dX5_put_8 : decode cX5_put 8 = .ok (.return_, 1) := by decide +kernel
theorem dX5_put_9 : decode cX5_put 9 = .ok (.bipush 24, 2) := by decide +kernel
theorem dX5_put_11 : decode cX5_put 11 = .ok (.istore_n 2, 1) := by decide +kernel
theorem dX5_put_12 : decode cX5_put 12 = .ok (.iload_n 2, 1) := by decide +kernel
theorem dX5_put_13 : decode cX5_put 13 = .ok (.ifCond .lt 35, 3) := by decide +kernel
theorem dX5_put_16 : decode cX5_put 16 = .ok (.aload_n 0, 1) := by decide +kernel
theorem dX5_put_17 : decode cX5_put 17 = .ok (.getfield 9, 3) := by decide +kernel
theorem dX5_put_20 : decode cX5_put 20 = .ok (.aload_n 0, 1) := by decide +kernel
theorem dX5_put_21 : decode cX5_put 21 = .ok (.getfield 15, 3) := by decide +kernel
theorem dX5_put_24 : decode cX5_put 24 = .ok (.iload_n 1, 1) := by decide +kernel
theorem dX5_put_25 : decode cX5_put 25 = .ok (.iload_n 2, 1) := by decide +kernel
theorem dX5_put_26 : decode cX5_put 26 = .ok (.iushr, 1) := by decide +kernel
theorem dX5_put_27 : decode cX5_put 27 = .ok (.sipush 255, 3) := by decide +kernel
theorem dX5_put_30 : decode cX5_put 30 = .ok (.iand, 1) := by decide +kernel
theorem dX5_put_31 : decode cX5_put 31 = .ok (.iastore, 1) := by decide +kernel
theorem dX5_put_32 : decode cX5_put 32 = .ok (.aload_n 0, 1) := by decide +kernel
theorem dX5_put_33 : decode cX5_put 33 = .ok (.dup, 1) := by decide +kernel
theorem dX5_put_34 : decode cX5_put 34 = .ok (.getfield 15, 3) := by decide +kernel
theorem dX5_put_37 : decode cX5_put 37 = .ok (.iconst 1, 1) := by decide +kernel
theorem dX5_put_38 : decode cX5_put 38 = .ok (.iadd, 1) := by decide +kernel
theorem dX5_put_39 : decode cX5_put 39 = .ok (.putfield 15, 3) := by decide +kernel
theorem dX5_put_42 : decode cX5_put 42 = .ok (.iinc 2 (-8), 3) := by decide +kernel
theorem dX5_put_45 : decode cX5_put 45 = .ok (.goto (-33), 3) := by decide +kernel
theorem dX5_put_48 : decode cX5_put 48 = .ok (.return_, 1) := by decide +kernel
theorem dX5_byteAt_0 : decode cX5_byteAt 0 = .ok (.iload_n 1, 1) := by decide +kernel
theorem dX5_byteAt_1 : decode cX5_byteAt 1 = .ok (.ifCond .lt 20, 3) := by decide +kernel
theorem dX5_byteAt_4 : decode cX5_byteAt 4 = .ok (.iload_n 1, 1) := by decide +kernel
theorem dX5_byteAt_5 : decode cX5_byteAt 5 = .ok (.aload_n 0, 1) := by decide +kernel
theorem dX5_byteAt_6 : decode cX5_byteAt 6 = .ok (.getfield 15, 3) := by decide +kernel
theorem dX5_byteAt_9 : decode cX5_byteAt 9 = .ok (.if_icmp .ge 12, 3) := by decide +kernel
theorem dX5_byteAt_12 : decode cX5_byteAt 12 = .ok (.aload_n 0, 1) := by decide +kernel
theorem dX5_byteAt_13 : decode cX5_byteAt 13 = .ok (.getfield 9, 3) := by decide +kernel
theorem dX5_byteAt_16 : decode cX5_byteAt 16 = .ok (.iload_n 1, 1) := by decide +kernel
theorem dX5_byteAt_17 : decode cX5_byteAt 17 = .ok (.iaload, 1) := by decide +kernel
theorem dX5_byteAt_18 : decode cX5_byteAt 18 = .ok (.goto 4, 3) := by decide +kernel
theorem dX5_byteAt_21 : decode cX5_byteAt 21 = .ok (.iconst (-1), 1) := by decide +kernel
theorem dX5_byteAt_22 : decode cX5_byteAt 22 = .ok (.ireturn, 1) := by decide +kernel
theorem dX6_init_0 : decode cX6_init 0 = .ok (.aload_n 0, 1) := by decide +kernel
theorem dX6_init_1 : decode cX6_init 1 = .ok (.invokespecial 3, 3) := by decide +kernel
theorem dX6_init_4 : decode cX6_init 4 = .ok (.aload_n 0, 1) := by decide +kernel
theorem dX6_init_5 : decode cX6_init 5 = .ok (.bipush 16, 2) := by decide +kernel
theorem dX6_init_7 : decode cX6_init 7 = .ok (.newarray .int, 2) := by decide +kernel
theorem dX6_init_9 : decode cX6_init 9 = .ok (.putfield 9, 3) := by decide +kernel
theorem dX6_init_12 : decode cX6_init 12 = .ok (.aload_n 0, 1) := by decide +kernel
theorem dX6_init_13 : decode cX6_init 13 = .ok (.bipush 16, 2) := by decide +kernel
theorem dX6_init_15 : decode cX6_init 15 = .ok (.newarray .int, 2) := by decide +kernel
theorem dX6_init_17 : decode cX6_init 17 = .ok (.putfield 15, 3) := by decide +kernel
theorem dX6_init_20 : decode cX6_init 20 = .ok (.aload_n 0, 1) := by decide +kernel
theorem dX6_init_21 : decode cX6_init 21 = .ok (.bipush 16, 2) := by decide +kernel
theorem dX6_init_23 : decode cX6_init 23 = .ok (.newarray .int, 2) := by decide +kernel
theorem dX6_init_25 : decode cX6_init 25 = .ok (.putfield 18, 3) := by decide +kernel
theorem dX6_init_28 : decode cX6_init 28 = .ok (.return_, 1) := by decide +kernel
theorem dX7_init_0 : decode cX7_init 0 = .ok (.aload_n 0, 1) := by decide +kernel
theorem dX7_init_1 : decode cX7_init 1 = .ok (.invokespecial 3, 3) := by decide +kernel
theorem dX7_init_4 : decode cX7_init 4 = .ok (.aload_n 0, 1) := by decide +kernel
theorem dX7_init_5 : decode cX7_init 5 = .ok (.new 9, 3) := by decide +kernel
theorem dX7_init_8 : decode cX7_init 8 = .ok (.dup, 1) := by decide +kernel
theorem dX7_init_9 : decode cX7_init 9 = .ok (.invokespecial 11, 3) := by decide +kernel
theorem dX7_init_12 : decode cX7_init 12 = .ok (.putfield 12, 3) := by decide +kernel
theorem dX7_init_15 : decode cX7_init 15 = .ok (.aload_n 0, 1) := by decide +kernel
theorem dX7_init_16 : decode cX7_init 16 = .ok (.new 16, 3) := by decide +kernel
theorem dX7_init_19 : decode cX7_init 19 = .ok (.dup, 1) := by decide +kernel
theorem dX7_init_20 : decode cX7_init 20 = .ok (.aload_n 0, 1) := by decide +kernel
theorem dX7_init_21 : decode cX7_init 21 = .ok (.getfield 12, 3) := by decide +kernel
theorem dX7_init_24 : decode cX7_init 24 = .ok (.invokespecial 18, 3) := by decide +kernel
theorem dX7_init_27 : decode cX7_init 27 = .ok (.putfield 21, 3) := by decide +kernel
theorem dX7_init_30 : decode cX7_init 30 = .ok (.aload_n 0, 1) := by decide +kernel
theorem dX7_init_31 : decode cX7_init 31 = .ok (.new 25, 3) := by decide +kernel
theorem dX7_init_34 : decode cX7_init 34 = .ok (.dup, 1) := by decide +kernel
theorem dX7_init_35 : decode cX7_init 35 = .ok (.invokespecial 27, 3) := by decide +kernel
theorem dX7_init_38 : decode cX7_init 38 = .ok (.putfield 28, 3) := by decide +kernel
theorem dX7_init_41 : decode cX7_init 41 = .ok (.aload_n 0, 1) := by decide +kernel
theorem dX7_init_42 : decode cX7_init 42 = .ok (.getfield 28, 3) := by decide +kernel
theorem dX7_init_45 : decode cX7_init 45 = .ok (.invokevirtual 32, 3) := by decide +kernel
theorem dX7_init_48 : decode cX7_init 48 = .ok (.aload_n 0, 1) := by decide +kernel
theorem dX7_init_49 : decode cX7_init 49 = .ok (.new 35, 3) := by decide +kernel
theorem dX7_init_52 : decode cX7_init 52 = .ok (.dup, 1) := by decide +kernel
theorem dX7_init_53 : decode cX7_init 53 = .ok (.aload_n 0, 1) := by decide +kernel
theorem dX7_init_54 : decode cX7_init 54 = .ok (.getfield 28, 3) := by decide +kernel
theorem dX7_init_57 : decode cX7_init 57 = .ok (.invokespecial 37, 3) := by decide +kernel
theorem dX7_init_60 : decode cX7_init 60 = .ok (.putfield 40, 3) := by decide +kernel
theorem dX7_init_63 : decode cX7_init 63 = .ok (.aload_n 0, 1) := by decide +kernel
theorem dX7_init_64 : decode cX7_init 64 = .ok (.iconst 3, 1) := by decide +kernel
theorem dX7_init_65 : decode cX7_init 65 = .ok (.anewarray 44, 3) := by decide +kernel
theorem dX7_init_68 : decode cX7_init 68 = .ok (.putfield 46, 3) := by decide +kernel
theorem dX7_init_71 : decode cX7_init 71 = .ok (.iconst 0, 1) := by decide +kernel
theorem dX7_init_72 : decode cX7_init 72 = .ok (.istore_n 1, 1) := by decide +kernel
theorem dX7_init_73 : decode cX7_init 73 = .ok (.iload_n 1, 1) := by decide +kernel
theorem dX7_init_74 : decode cX7_init 74 = .ok (.iconst 3, 1) := by decide +kernel
theorem dX7_init_75 : decode cX7_init 75 = .ok (.if_icmp .ge 31, 3) := by decide +kernel
theorem dX7_init_78 : decode cX7_init 78 = .ok (.aload_n 0, 1) := by decide +kernel
theorem dX7_init_79 : decode cX7_init 79 = .ok (.getfield 46, 3) := by decide +kernel
theorem dX7_init_82 : decode cX7_init 82 = .ok (.iload_n 1, 1) := by decide +kernel
theorem dX7_init_83 : decode cX7_init 83 = .ok (.new 44, 3) := by decide +kernel
theorem dX7_init_86 : decode cX7_init 86 = .ok (.dup, 1) := by decide +kernel
theorem dX7_init_87 : decode cX7_init 87 = .ok (.aload_n 0, 1) := by decide +kernel
theorem dX7_init_88 : decode cX7_init 88 = .ok (.getfield 28, 3) := by decide +kernel
theorem dX7_init_91 : decode cX7_init 91 = .ok (.aload_n 0, 1) := by decide +kernel
theorem dX7_init_92 : decode cX7_init 92 = .ok (.getfield 40, 3) := by decide +kernel
theorem dX7_init_95 : decode cX7_init 95 = .ok (.iload_n 1, 1) := by decide +kernel
theorem dX7_init_96 : decode cX7_init 96 = .ok (.invokespecial 50, 3) := by decide +kernel
theorem dX7_init_99 : decode cX7_init 99 = .ok (.aastore, 1) := by decide +kernel
theorem dX7_init_100 : decode cX7_init 100 = .ok (.iinc 1 1, 3) := by decide +kernel
theorem dX7_init_103 : decode cX7_init 103 = .ok (.goto (-30), 3) := by decide +kernel
theorem dX7_init_106 : decode cX7_init 106 = .ok (.return_, 1) := by decide +kernel
theorem dX7_feed_0 : decode cX7_feed 0 = .ok (.aload_n 0, 1) := by decide +kernel
theorem dX7_feed_1 : decode cX7_feed 1 = .ok (.getfield 12, 3) := by decide +kernel
theorem dX7_feed_4 : decode cX7_feed 4 = .ok (.bipush 20, 2) := by decide +kernel
theorem dX7_feed_6 : decode cX7_feed 6 = .ok (.invokevirtual 53, 3) := by decide +kernel
theorem dX7_feed_9 : decode cX7_feed 9 = .ok (.ifCond .ne 5, 3) := by decide +kernel
theorem dX7_feed_12 : decode cX7_feed 12 = .ok (.iconst (-1), 1) := by decide +kernel
theorem dX7_feed_13 : decode cX7_feed 13 = .ok (.ireturn, 1) := by decide +kernel
theorem dX7_feed_14 : decode cX7_feed 14 = .ok (.aload_n 0, 1) := by decide +kernel
theorem dX7_feed_15 : decode cX7_feed 15 = .ok (.getfield 12, 3) := by decide +kernel
theorem dX7_feed_18 : decode cX7_feed 18 = .ok (.iload_n 1, 1) := by decide +kernel
theorem dX7_feed_19 : decode cX7_feed 19 = .ok (.invokevirtual 57, 3) := by decide +kernel
theorem dX7_feed_22 : decode cX7_feed 22 = .ok (.aload_n 0, 1) := by decide +kernel
theorem dX7_feed_23 : decode cX7_feed 23 = .ok (.getfield 12, 3) := by decide +kernel
theorem dX7_feed_26 : decode cX7_feed 26 = .ok (.iload_n 2, 1) := by decide +kernel
theorem dX7_feed_27 : decode cX7_feed 27 = .ok (.invokevirtual 57, 3) := by decide +kernel
theorem dX7_feed_30 : decode cX7_feed 30 = .ok (.aload_n 0, 1) := by decide +kernel
theorem dX7_feed_31 : decode cX7_feed 31 = .ok (.getfield 12, 3) := by decide +kernel
theorem dX7_feed_34 : decode cX7_feed 34 = .ok (.iload_n 3, 1) := by decide +kernel
theorem dX7_feed_35 : decode cX7_feed 35 = .ok (.invokevirtual 57, 3) := by decide +kernel
theorem dX7_feed_38 : decode cX7_feed 38 = .ok (.aload_n 0, 1) := by decide +kernel
theorem dX7_feed_39 : decode cX7_feed 39 = .ok (.getfield 12, 3) := by decide +kernel
theorem dX7_feed_42 : decode cX7_feed 42 = .ok (.iload 4, 2) := by decide +kernel
theorem dX7_feed_44 : decode cX7_feed 44 = .ok (.invokevirtual 57, 3) := by decide +kernel
theorem dX7_feed_47 : decode cX7_feed 47 = .ok (.aload_n 0, 1) := by decide +kernel
theorem dX7_feed_48 : decode cX7_feed 48 = .ok (.getfield 12, 3) := by decide +kernel
theorem dX7_feed_51 : decode cX7_feed 51 = .ok (.iload 5, 2) := by decide +kernel
theorem dX7_feed_53 : decode cX7_feed 53 = .ok (.invokevirtual 57, 3) := by decide +kernel
theorem dX7_feed_56 : decode cX7_feed 56 = .ok (.aload_n 0, 1) := by decide +kernel
theorem dX7_feed_57 : decode cX7_feed 57 = .ok (.getfield 12, 3) := by decide +kernel
theorem dX7_feed_60 : decode cX7_feed 60 = .ok (.getfield 61, 3) := by decide +kernel
theorem dX7_feed_63 : decode cX7_feed 63 = .ok (.ireturn, 1) := by decide +kernel
theorem dX7_end_0 : decode cX7_end 0 = .ok (.iload_n 1, 1) := by decide +kernel
theorem dX7_end_1 : decode cX7_end 1 = .ok (.ifCond .lt 14, 3) := by decide +kernel
theorem dX7_end_4 : decode cX7_end 4 = .ok (.iload_n 1, 1) := by decide +kernel
theorem dX7_end_5 : decode cX7_end 5 = .ok (.aload_n 0, 1) := by decide +kernel
theorem dX7_end_6 : decode cX7_end 6 = .ok (.getfield 12, 3) := by decide +kernel
theorem dX7_end_9 : decode cX7_end 9 = .ok (.getfield 61, 3) := by decide +kernel
theorem dX7_end_12 : decode cX7_end 12 = .ok (.if_icmp .le 5, 3) := by decide +kernel
theorem dX7_end_15 : decode cX7_end 15 = .ok (.iconst (-1), 1) := by decide +kernel
theorem dX7_end_16 : decode cX7_end 16 = .ok (.ireturn, 1) := by decide +kernel
theorem dX7_end_17 : decode cX7_end 17 = .ok (.aload_n 0, 1) := by decide +kernel
theorem dX7_end_18 : decode cX7_end 18 = .ok (.getfield 12, 3) := by decide +kernel
theorem dX7_end_21 : decode cX7_end 21 = .ok (.iload_n 1, 1) := by decide +kernel
theorem dX7_end_22 : decode cX7_end 22 = .ok (.putfield 61, 3) := by decide +kernel
theorem dX7_end_25 : decode cX7_end 25 = .ok (.iload_n 1, 1) := by decide +kernel
theorem dX7_end_26 : decode cX7_end 26 = .ok (.ireturn, 1) := by decide +kernel
theorem dX7_book_0 : decode cX7_book 0 = .ok (.aload_n 0, 1) := by decide +kernel
theorem dX7_book_1 : decode cX7_book 1 = .ok (.getfield 21, 3) := by decide +kernel
theorem dX7_book_4 : decode cX7_book 4 = .ok (.invokevirtual 65, 3) := by decide +kernel
theorem dX7_book_7 : decode cX7_book 7 = .ok (.ifCond .ne 5, 3) := by decide +kernel
theorem dX7_book_10 : decode cX7_book 10 = .ok (.iconst (-1), 1) := by decide +kernel
theorem dX7_book_11 : decode cX7_book 11 = .ok (.ireturn, 1) := by decide +kernel
theorem dX7_book_12 : decode cX7_book 12 = .ok (.aload_n 0, 1) := by decide +kernel
theorem dX7_book_13 : decode cX7_book 13 = .ok (.getfield 28, 3) := by decide +kernel
theorem dX7_book_16 : decode cX7_book 16 = .ok (.aload_n 0, 1) := by decide +kernel
theorem dX7_book_17 : decode cX7_book 17 = .ok (.getfield 21, 3) := by decide +kernel
theorem dX7_book_20 : decode cX7_book 20 = .ok (.getfield 69, 3) := by decide +kernel
theorem dX7_book_23 : decode cX7_book 23 = .ok (.invokevirtual 72, 3) := by decide +kernel
theorem dX7_book_26 : decode cX7_book 26 = .ok (.aload_n 0, 1) := by decide +kernel
theorem dX7_book_27 : decode cX7_book 27 = .ok (.getfield 12, 3) := by decide +kernel
theorem dX7_book_30 : decode cX7_book 30 = .ok (.iconst 0, 1) := by decide +kernel
theorem dX7_book_31 : decode cX7_book 31 = .ok (.putfield 61, 3) := by decide +kernel
theorem dX7_book_34 : decode cX7_book 34 = .ok (.aload_n 0, 1) := by decide +kernel
theorem dX7_book_35 : decode cX7_book 35 = .ok (.getfield 40, 3) := by decide +kernel
theorem dX7_book_38 : decode cX7_book 38 = .ok (.iconst 0, 1) := by decide +kernel
theorem dX7_book_39 : decode cX7_book 39 = .ok (.putfield 75, 3) := by decide +kernel
theorem dX7_book_42 : decode cX7_book 42 = .ok (.aload_n 0, 1) := by decide +kernel
theorem dX7_book_43 : decode cX7_book 43 = .ok (.invokevirtual 79, 3) := by decide +kernel
theorem dX7_book_46 : decode cX7_book 46 = .ok (.aload_n 0, 1) := by decide +kernel
theorem dX7_book_47 : decode cX7_book 47 = .ok (.getfield 28, 3) := by decide +kernel
theorem dX7_book_50 : decode cX7_book 50 = .ok (.getfield 82, 3) := by decide +kernel
theorem dX7_book_53 : decode cX7_book 53 = .ok (.ireturn, 1) := by decide +kernel
theorem dX7_fault_0 : decode cX7_fault 0 = .ok (.iload_n 1, 1) := by decide +kernel
theorem dX7_fault_1 : decode cX7_fault 1 = .ok (.lookupswitch 43 #[(0, 27), (1, 35)], 27) := by decide +kernel
theorem dX7_fault_28 : decode cX7_fault 28 = .ok (.aload_n 0, 1) := by decide +kernel
theorem dX7_fault_29 : decode cX7_fault 29 = .ok (.getfield 21, 3) := by decide +kernel
theorem dX7_fault_32 : decode cX7_fault 32 = .ok (.getfield 85, 3) := by decide +kernel
theorem dX7_fault_35 : decode cX7_fault 35 = .ok (.ireturn, 1) := by decide +kernel
theorem dX7_fault_36 : decode cX7_fault 36 = .ok (.aload_n 0, 1) := by decide +kernel
theorem dX7_fault_37 : decode cX7_fault 37 = .ok (.getfield 21, 3) := by decide +kernel
theorem dX7_fault_40 : decode cX7_fault 40 = .ok (.getfield 88, 3) := by decide +kernel
theorem dX7_fault_43 : decode cX7_fault 43 = .ok (.ireturn, 1) := by decide +kernel
theorem dX7_fault_44 : decode cX7_fault 44 = .ok (.iconst (-1), 1) := by decide +kernel
theorem dX7_fault_45 : decode cX7_fault 45 = .ok (.ireturn, 1) := by decide +kernel
theorem dX7_flight_0 : decode cX7_flight 0 = .ok (.iload_n 1, 1) := by decide +kernel
theorem dX7_flight_1 : decode cX7_flight 1 = .ok (.bipush 10, 2) := by decide +kernel
theorem dX7_flight_3 : decode cX7_flight 3 = .ok (.invokestatic 91, 3) := by decide +kernel
theorem dX7_flight_6 : decode cX7_flight 6 = .ok (.ifCond .eq 53, 3) := by decide +kernel
theorem dX7_flight_9 : decode cX7_flight 9 = .ok (.iload_n 2, 1) := by decide +kernel
theorem dX7_flight_10 : decode cX7_flight 10 = .ok (.bipush 10, 2) := by decide +kernel
theorem dX7_flight_12 : decode cX7_flight 12 = .ok (.invokestatic 91, 3) := by decide +kernel
theorem dX7_flight_15 : decode cX7_flight 15 = .ok (.ifCond .eq 44, 3) := by decide +kernel
theorem dX7_flight_18 : decode cX7_flight 18 = .ok (.iload_n 1, 1) := by decide +kernel
theorem dX7_flight_19 : decode cX7_flight 19 = .ok (.iload_n 2, 1) := by decide +kernel
theorem dX7_flight_20 : decode cX7_flight 20 = .ok (.if_icmp .eq 39, 3) := by decide +kernel
theorem dX7_flight_23 : decode cX7_flight 23 = .ok (.iload_n 3, 1) := by decide +kernel
theorem dX7_flight_24 : decode cX7_flight 24 = .ok (.sipush 1000, 3) := by decide +kernel
theorem dX7_flight_27 : decode cX7_flight 27 = .ok (.invokestatic 91, 3) := by decide +kernel
theorem dX7_flight_30 : decode cX7_flight 30 = .ok (.ifCond .eq 29, 3) := by decide +kernel
theorem dX7_flight_33 : decode cX7_flight 33 = .ok (.iload 4, 2) := by decide +kernel
theorem dX7_flight_35 : decode cX7_flight 35 = .ok (.sipush 30001, 3) := by decide +kernel
theorem dX7_flight_38 : decode cX7_flight 38 = .ok (.invokestatic 91, 3) := by decide +kernel
theorem dX7_flight_41 : decode cX7_flight 41 = .ok (.ifCond .eq 18, 3) := by decide +kernel
theorem dX7_flight_44 : decode cX7_flight 44 = .ok (.iload 5, 2) := by decide +kernel
theorem dX7_flight_46 : decode cX7_flight 46 = .ok (.sipush 10001, 3) := by decide +kernel
theorem dX7_flight_49 : decode cX7_flight 49 = .ok (.invokestatic 91, 3) := by decide +kernel
theorem dX7_flight_52 : decode cX7_flight 52 = .ok (.ifCond .eq 7, 3) := by decide +kernel
theorem dX7_flight_55 : decode cX7_flight 55 = .ok (.iconst 1, 1) := by decide +kernel
theorem dX7_flight_56 : decode cX7_flight 56 = .ok (.goto 4, 3) := by decide +kernel
theorem dX7_flight_59 : decode cX7_flight 59 = .ok (.iconst 0, 1) := by decide +kernel
theorem dX7_flight_60 : decode cX7_flight 60 = .ok (.istore 6, 2) := by decide +kernel
theorem dX7_flight_62 : decode cX7_flight 62 = .ok (.iload 6, 2) := by decide +kernel
theorem dX7_flight_64 : decode cX7_flight 64 = .ok (.ifCond .ne 5, 3) := by decide +kernel
theorem dX7_flight_67 : decode cX7_flight 67 = .ok (.iconst 0, 1) := by decide +kernel
theorem dX7_flight_68 : decode cX7_flight 68 = .ok (.ireturn, 1) := by decide +kernel
theorem dX7_flight_69 : decode cX7_flight 69 = .ok (.aload_n 0, 1) := by decide +kernel
theorem dX7_flight_70 : decode cX7_flight 70 = .ok (.getfield 40, 3) := by decide +kernel
theorem dX7_flight_73 : decode cX7_flight 73 = .ok (.iload_n 1, 1) := by decide +kernel
theorem dX7_flight_74 : decode cX7_flight 74 = .ok (.iload_n 2, 1) := by decide +kernel
theorem dX7_flight_75 : decode cX7_flight 75 = .ok (.iload_n 3, 1) := by decide +kernel
theorem dX7_flight_76 : decode cX7_flight 76 = .ok (.iload 4, 2) := by decide +kernel
theorem dX7_flight_78 : decode cX7_flight 78 = .ok (.iload 5, 2) := by decide +kernel
theorem dX7_flight_80 : decode cX7_flight 80 = .ok (.invokevirtual 95, 3) := by decide +kernel
theorem dX7_flight_83 : decode cX7_flight 83 = .ok (.aload_n 0, 1) := by decide +kernel
theorem dX7_flight_84 : decode cX7_flight 84 = .ok (.invokevirtual 79, 3) := by decide +kernel
theorem dX7_flight_87 : decode cX7_flight 87 = .ok (.iconst 1, 1) := by decide +kernel
theorem dX7_flight_88 : decode cX7_flight 88 = .ok (.ireturn, 1) := by decide +kernel
theorem dX7_told_0 : decode cX7_told 0 = .ok (.iload_n 1, 1) := by decide +kernel
theorem dX7_told_1 : decode cX7_told 1 = .ok (.tableswitch 228 0 7 #[47, 72, 126, 163, 188, 198, 208, 218], 47) := by decide +kernel
theorem dX7_told_48 : decode cX7_told 48 = .ok (.iload_n 2, 1) := by decide +kernel
theorem dX7_told_49 : decode cX7_told 49 = .ok (.bipush 6, 2) := by decide +kernel
theorem dX7_told_51 : decode cX7_told 51 = .ok (.invokestatic 91, 3) := by decide +kernel
theorem dX7_told_54 : decode cX7_told 54 = .ok (.ifCond .eq 15, 3) := by decide +kernel
theorem dX7_told_57 : decode cX7_told 57 = .ok (.aload_n 0, 1) := by decide +kernel
theorem dX7_told_58 : decode cX7_told 58 = .ok (.getfield 28, 3) := by decide +kernel
theorem dX7_told_61 : decode cX7_told 61 = .ok (.getfield 99, 3) := by decide +kernel
theorem dX7_told_64 : decode cX7_told 64 = .ok (.iload_n 2, 1) := by decide +kernel
theorem dX7_told_65 : decode cX7_told 65 = .ok (.iaload, 1) := by decide +kernel
theorem dX7_told_66 : decode cX7_told 66 = .ok (.goto 6, 3) := by decide +kernel
theorem dX7_told_69 : decode cX7_told 69 = .ok (.sipush (-1000), 3) := by decide +kernel
theorem dX7_told_72 : decode cX7_told 72 = .ok (.ireturn, 1) := by decide +kernel
theorem dX7_told_73 : decode cX7_told 73 = .ok (.iload_n 2, 1) := by decide +kernel
theorem dX7_told_74 : decode cX7_told 74 = .ok (.iconst 3, 1) := by decide +kernel
theorem dX7_told_75 : decode cX7_told 75 = .ok (.invokestatic 91, 3) := by decide +kernel
theorem dX7_told_78 : decode cX7_told 78 = .ok (.ifCond .eq 45, 3) := by decide +kernel
theorem dX7_told_81 : decode cX7_told 81 = .ok (.iload_n 3, 1) := by decide +kernel
theorem dX7_told_82 : decode cX7_told 82 = .ok (.bipush 6, 2) := by decide +kernel
theorem dX7_told_84 : decode cX7_told 84 = .ok (.invokestatic 91, 3) := by decide +kernel
theorem dX7_told_87 : decode cX7_told 87 = .ok (.ifCond .eq 36, 3) := by decide +kernel
theorem dX7_told_90 : decode cX7_told 90 = .ok (.iload 4, 2) := by decide +kernel
theorem dX7_told_92 : decode cX7_told 92 = .ok (.aload_n 0, 1) := by decide +kernel
theorem dX7_told_93 : decode cX7_told 93 = .ok (.getfield 28, 3) := by decide +kernel
theorem dX7_told_96 : decode cX7_told 96 = .ok (.getfield 82, 3) := by decide +kernel
theorem dX7_told_99 : decode cX7_told 99 = .ok (.invokestatic 91, 3) := by decide +kernel
theorem dX7_told_102 : decode cX7_told 102 = .ok (.ifCond .eq 21, 3) := by decide +kernel
theorem dX7_told_105 : decode cX7_told 105 = .ok (.aload_n 0, 1) := by decide +kernel
theorem dX7_told_106 : decode cX7_told 106 = .ok (.getfield 28, 3) := by decide +kernel
theorem dX7_told_109 : decode cX7_told 109 = .ok (.getfield 103, 3) := by decide +kernel
theorem dX7_told_112 : decode cX7_told 112 = .ok (.iload_n 2, 1) := by decide +kernel
theorem dX7_told_113 : decode cX7_told 113 = .ok (.iload_n 3, 1) := by decide +kernel
theorem dX7_told_114 : decode cX7_told 114 = .ok (.iload 4, 2) := by decide +kernel
theorem dX7_told_116 : decode cX7_told 116 = .ok (.invokestatic 106, 3) := by decide +kernel
theorem dX7_told_119 : decode cX7_told 119 = .ok (.iaload, 1) := by decide +kernel
theorem dX7_told_120 : decode cX7_told 120 = .ok (.goto 6, 3) := by decide +kernel
theorem dX7_told_123 : decode cX7_told 123 = .ok (.sipush (-1000), 3) := by decide +kernel
theorem dX7_told_126 : decode cX7_told 126 = .ok (.ireturn, 1) := by decide +kernel
theorem dX7_told_127 : decode cX7_told 127 = .ok (.iload_n 2, 1) := by decide +kernel
theorem dX7_told_128 : decode cX7_told 128 = .ok (.bipush 6, 2) := by decide +kernel
theorem dX7_told_130 : decode cX7_told 130 = .ok (.invokestatic 91, 3) := by decide +kernel
theorem dX7_told_133 : decode cX7_told 133 = .ok (.ifCond .eq 27, 3) := by decide +kernel
theorem dX7_told_136 : decode cX7_told 136 = .ok (.iload_n 3, 1) := by decide +kernel
theorem dX7_told_137 : decode cX7_told 137 = .ok (.iconst 5, 1) := by decide +kernel
theorem dX7_told_138 : decode cX7_told 138 = .ok (.invokestatic 91, 3) := by decide +kernel
theorem dX7_told_141 : decode cX7_told 141 = .ok (.ifCond .eq 19, 3) := by decide +kernel
theorem dX7_told_144 : decode cX7_told 144 = .ok (.aload_n 0, 1) := by decide +kernel
theorem dX7_told_145 : decode cX7_told 145 = .ok (.getfield 28, 3) := by decide +kernel
theorem dX7_told_148 : decode cX7_told 148 = .ok (.getfield 110, 3) := by decide +kernel
theorem dX7_told_151 : decode cX7_told 151 = .ok (.iload_n 2, 1) := by decide +kernel
theorem dX7_told_152 : decode cX7_told 152 = .ok (.iload_n 3, 1) := by decide +kernel
theorem dX7_told_153 : decode cX7_told 153 = .ok (.invokestatic 113, 3) := by decide +kernel
theorem dX7_told_156 : decode cX7_told 156 = .ok (.iaload, 1) := by decide +kernel
theorem dX7_told_157 : decode cX7_told 157 = .ok (.goto 6, 3) := by decide +kernel
theorem dX7_told_160 : decode cX7_told 160 = .ok (.sipush (-1000), 3) := by decide +kernel
theorem dX7_told_163 : decode cX7_told 163 = .ok (.ireturn, 1) := by decide +kernel
theorem dX7_told_164 : decode cX7_told 164 = .ok (.iload_n 2, 1) := by decide +kernel
theorem dX7_told_165 : decode cX7_told 165 = .ok (.bipush 6, 2) := by decide +kernel
theorem dX7_told_167 : decode cX7_told 167 = .ok (.invokestatic 91, 3) := by decide +kernel
theorem dX7_told_170 : decode cX7_told 170 = .ok (.ifCond .eq 15, 3) := by decide +kernel
theorem dX7_told_173 : decode cX7_told 173 = .ok (.aload_n 0, 1) := by decide +kernel
theorem dX7_told_174 : decode cX7_told 174 = .ok (.getfield 28, 3) := by decide +kernel
theorem dX7_told_177 : decode cX7_told 177 = .ok (.getfield 117, 3) := by decide +kernel
theorem dX7_told_180 : decode cX7_told 180 = .ok (.iload_n 2, 1) := by decide +kernel
theorem dX7_told_181 : decode cX7_told 181 = .ok (.iaload, 1) := by decide +kernel
theorem dX7_told_182 : decode cX7_told 182 = .ok (.goto 6, 3) := by decide +kernel
theorem dX7_told_185 : decode cX7_told 185 = .ok (.sipush (-1000), 3) := by decide +kernel
theorem dX7_told_188 : decode cX7_told 188 = .ok (.ireturn, 1) := by decide +kernel
theorem dX7_told_189 : decode cX7_told 189 = .ok (.aload_n 0, 1) := by decide +kernel
theorem dX7_told_190 : decode cX7_told 190 = .ok (.getfield 28, 3) := by decide +kernel
theorem dX7_told_193 : decode cX7_told 193 = .ok (.getfield 120, 3) := by decide +kernel
theorem dX7_told_196 : decode cX7_told 196 = .ok (.iconst 0, 1) := by decide +kernel
theorem dX7_told_197 : decode cX7_told 197 = .ok (.iaload, 1) := by decide +kernel
theorem dX7_told_198 : decode cX7_told 198 = .ok (.ireturn, 1) := by decide +kernel
theorem dX7_told_199 : decode cX7_told 199 = .ok (.aload_n 0, 1) := by decide +kernel
theorem dX7_told_200 : decode cX7_told 200 = .ok (.getfield 28, 3) := by decide +kernel
theorem dX7_told_203 : decode cX7_told 203 = .ok (.getfield 120, 3) := by decide +kernel
theorem dX7_told_206 : decode cX7_told 206 = .ok (.iconst 1, 1) := by decide +kernel
theorem dX7_told_207 : decode cX7_told 207 = .ok (.iaload, 1) := by decide +kernel
theorem dX7_told_208 : decode cX7_told 208 = .ok (.ireturn, 1) := by decide +kernel
theorem dX7_told_209 : decode cX7_told 209 = .ok (.aload_n 0, 1) := by decide +kernel
theorem dX7_told_210 : decode cX7_told 210 = .ok (.getfield 28, 3) := by decide +kernel
theorem dX7_told_213 : decode cX7_told 213 = .ok (.getfield 120, 3) := by decide +kernel
theorem dX7_told_216 : decode cX7_told 216 = .ok (.iconst 2, 1) := by decide +kernel
theorem dX7_told_217 : decode cX7_told 217 = .ok (.iaload, 1) := by decide +kernel
theorem dX7_told_218 : decode cX7_told 218 = .ok (.ireturn, 1) := by decide +kernel
theorem dX7_told_219 : decode cX7_told 219 = .ok (.aload_n 0, 1) := by decide +kernel
theorem dX7_told_220 : decode cX7_told 220 = .ok (.getfield 28, 3) := by decide +kernel
theorem dX7_told_223 : decode cX7_told 223 = .ok (.getfield 120, 3) := by decide +kernel
theorem dX7_told_226 : decode cX7_told 226 = .ok (.iconst 3, 1) := by decide +kernel
theorem dX7_told_227 : decode cX7_told 227 = .ok (.iaload, 1) := by decide +kernel
theorem dX7_told_228 : decode cX7_told 228 = .ok (.ireturn, 1) := by decide +kernel
theorem dX7_told_229 : decode cX7_told 229 = .ok (.sipush (-1000), 3) := by decide +kernel
theorem dX7_told_232 : decode cX7_told 232 = .ok (.ireturn, 1) := by decide +kernel
theorem dX7_minutes_0 : decode cX7_minutes 0 = .ok (.aload_n 0, 1) := by decide +kernel
theorem dX7_minutes_1 : decode cX7_minutes 1 = .ok (.getfield 40, 3) := by decide +kernel
theorem dX7_minutes_4 : decode cX7_minutes 4 = .ok (.getfield 75, 3) := by decide +kernel
theorem dX7_minutes_7 : decode cX7_minutes 7 = .ok (.ifCond .eq 34, 3) := by decide +kernel
theorem dX7_minutes_10 : decode cX7_minutes 10 = .ok (.iload_n 1, 1) := by decide +kernel
theorem dX7_minutes_11 : decode cX7_minutes 11 = .ok (.aload_n 0, 1) := by decide +kernel
theorem dX7_minutes_12 : decode cX7_minutes 12 = .ok (.getfield 28, 3) := by decide +kernel
theorem dX7_minutes_15 : decode cX7_minutes 15 = .ok (.getfield 82, 3) := by decide +kernel
theorem dX7_minutes_18 : decode cX7_minutes 18 = .ok (.invokestatic 91, 3) := by decide +kernel
theorem dX7_minutes_21 : decode cX7_minutes 21 = .ok (.ifCond .eq 20, 3) := by decide +kernel
theorem dX7_minutes_24 : decode cX7_minutes 24 = .ok (.iload_n 2, 1) := by decide +kernel
theorem dX7_minutes_25 : decode cX7_minutes 25 = .ok (.bipush 6, 2) := by decide +kernel
theorem dX7_minutes_27 : decode cX7_minutes 27 = .ok (.invokestatic 91, 3) := by decide +kernel
theorem dX7_minutes_30 : decode cX7_minutes 30 = .ok (.ifCond .eq 11, 3) := by decide +kernel
theorem dX7_minutes_33 : decode cX7_minutes 33 = .ok (.iload_n 3, 1) := by decide +kernel
theorem dX7_minutes_34 : decode cX7_minutes 34 = .ok (.iconst 3, 1) := by decide +kernel
theorem dX7_minutes_35 : decode cX7_minutes 35 = .ok (.invokestatic 91, 3) := by decide +kernel
theorem dX7_minutes_38 : decode cX7_minutes 38 = .ok (.ifCond .ne 5, 3) := by decide +kernel
theorem dX7_minutes_41 : decode cX7_minutes 41 = .ok (.iconst (-1), 1) := by decide +kernel
theorem dX7_minutes_42 : decode cX7_minutes 42 = .ok (.ireturn, 1) := by decide +kernel
theorem dX7_minutes_43 : decode cX7_minutes 43 = .ok (.aload_n 0, 1) := by decide +kernel
theorem dX7_minutes_44 : decode cX7_minutes 44 = .ok (.getfield 40, 3) := by decide +kernel
theorem dX7_minutes_47 : decode cX7_minutes 47 = .ok (.iload_n 1, 1) := by decide +kernel
theorem dX7_minutes_48 : decode cX7_minutes 48 = .ok (.iload_n 2, 1) := by decide +kernel
theorem dX7_minutes_49 : decode cX7_minutes 49 = .ok (.iload_n 3, 1) := by decide +kernel
theorem dX7_minutes_50 : decode cX7_minutes 50 = .ok (.invokevirtual 123, 3) := by decide +kernel
theorem dX7_minutes_53 : decode cX7_minutes 53 = .ok (.ireturn, 1) := by decide +kernel
theorem dX7_fuel_0 : decode cX7_fuel 0 = .ok (.aload_n 0, 1) := by decide +kernel
theorem dX7_fuel_1 : decode cX7_fuel 1 = .ok (.iload_n 1, 1) := by decide +kernel
theorem dX7_fuel_2 : decode cX7_fuel 2 = .ok (.iload_n 2, 1) := by decide +kernel
theorem dX7_fuel_3 : decode cX7_fuel 3 = .ok (.iload_n 3, 1) := by decide +kernel
theorem dX7_fuel_4 : decode cX7_fuel 4 = .ok (.invokevirtual 126, 3) := by decide +kernel
theorem dX7_fuel_7 : decode cX7_fuel 7 = .ok (.istore 5, 2) := by decide +kernel
theorem dX7_fuel_9 : decode cX7_fuel 9 = .ok (.iload 5, 2) := by decide +kernel
theorem dX7_fuel_11 : decode cX7_fuel 11 = .ok (.iconst (-1), 1) := by decide +kernel
theorem dX7_fuel_12 : decode cX7_fuel 12 = .ok (.if_icmp .eq 13, 3) := by decide +kernel
theorem dX7_fuel_15 : decode cX7_fuel 15 = .ok (.iload 4, 2) := by decide +kernel
theorem dX7_fuel_17 : decode cX7_fuel 17 = .ok (.ldc 129, 2) := by decide +kernel
theorem dX7_fuel_19 : decode cX7_fuel 19 = .ok (.invokestatic 91, 3) := by decide +kernel
theorem dX7_fuel_22 : decode cX7_fuel 22 = .ok (.ifCond .ne 5, 3) := by decide +kernel
theorem dX7_fuel_25 : decode cX7_fuel 25 = .ok (.iconst (-1), 1) := by decide +kernel
theorem dX7_fuel_26 : decode cX7_fuel 26 = .ok (.ireturn, 1) := by decide +kernel
theorem dX7_fuel_27 : decode cX7_fuel 27 = .ok (.aload_n 0, 1) := by decide +kernel
theorem dX7_fuel_28 : decode cX7_fuel 28 = .ok (.getfield 40, 3) := by decide +kernel
theorem dX7_fuel_31 : decode cX7_fuel 31 = .ok (.iload 5, 2) := by decide +kernel
theorem dX7_fuel_33 : decode cX7_fuel 33 = .ok (.iload_n 2, 1) := by decide +kernel
theorem dX7_fuel_34 : decode cX7_fuel 34 = .ok (.iload 4, 2) := by decide +kernel
theorem dX7_fuel_36 : decode cX7_fuel 36 = .ok (.invokevirtual 130, 3) := by decide +kernel
theorem dX7_fuel_39 : decode cX7_fuel 39 = .ok (.ireturn, 1) := by decide +kernel
theorem dX7_need_0 : decode cX7_need 0 = .ok (.aload_n 0, 1) := by decide +kernel
theorem dX7_need_1 : decode cX7_need 1 = .ok (.iload_n 1, 1) := by decide +kernel
theorem dX7_need_2 : decode cX7_need 2 = .ok (.invokevirtual 133, 3) := by decide +kernel
theorem dX7_need_5 : decode cX7_need 5 = .ok (.astore_n 2, 1) := by decide +kernel
theorem dX7_need_6 : decode cX7_need 6 = .ok (.aload_n 2, 1) := by decide +kernel
theorem dX7_need_7 : decode cX7_need 7 = .ok (.ifnonnull 7, 3) := by decide +kernel
theorem dX7_need_10 : decode cX7_need 10 = .ok (.iconst (-1), 1) := by decide +kernel
theorem dX7_need_11 : decode cX7_need 11 = .ok (.goto 10, 3) := by decide +kernel
theorem dX7_need_14 : decode cX7_need 14 = .ok (.aload_n 2, 1) := by decide +kernel
theorem dX7_need_15 : decode cX7_need 15 = .ok (.getfield 137, 3) := by decide +kernel
theorem dX7_need_18 : decode cX7_need 18 = .ok (.getfield 141, 3) := by decide +kernel
theorem dX7_need_21 : decode cX7_need 21 = .ok (.ireturn, 1) := by decide +kernel
theorem dX7_legs_0 : decode cX7_legs 0 = .ok (.aload_n 0, 1) := by decide +kernel
theorem dX7_legs_1 : decode cX7_legs 1 = .ok (.iload_n 1, 1) := by decide +kernel
theorem dX7_legs_2 : decode cX7_legs 2 = .ok (.invokevirtual 133, 3) := by decide +kernel
theorem dX7_legs_5 : decode cX7_legs 5 = .ok (.astore_n 2, 1) := by decide +kernel
theorem dX7_legs_6 : decode cX7_legs 6 = .ok (.aload_n 2, 1) := by decide +kernel
theorem dX7_legs_7 : decode cX7_legs 7 = .ok (.ifnonnull 7, 3) := by decide +kernel
theorem dX7_legs_10 : decode cX7_legs 10 = .ok (.iconst (-1), 1) := by decide +kernel
theorem dX7_legs_11 : decode cX7_legs 11 = .ok (.goto 10, 3) := by decide +kernel
theorem dX7_legs_14 : decode cX7_legs 14 = .ok (.aload_n 2, 1) := by decide +kernel
theorem dX7_legs_15 : decode cX7_legs 15 = .ok (.getfield 137, 3) := by decide +kernel
theorem dX7_legs_18 : decode cX7_legs 18 = .ok (.getfield 146, 3) := by decide +kernel
theorem dX7_legs_21 : decode cX7_legs 21 = .ok (.ireturn, 1) := by decide +kernel
theorem dX7_leg_0 : decode cX7_leg 0 = .ok (.aload_n 0, 1) := by decide +kernel
theorem dX7_leg_1 : decode cX7_leg 1 = .ok (.iload_n 1, 1) := by decide +kernel
theorem dX7_leg_2 : decode cX7_leg 2 = .ok (.invokevirtual 133, 3) := by decide +kernel
theorem dX7_leg_5 : decode cX7_leg 5 = .ok (.astore 4, 2) := by decide +kernel
theorem dX7_leg_7 : decode cX7_leg 7 = .ok (.aload 4, 2) := by decide +kernel
theorem dX7_leg_9 : decode cX7_leg 9 = .ok (.ifnull 18, 3) := by decide +kernel
theorem dX7_leg_12 : decode cX7_leg 12 = .ok (.iload_n 2, 1) := by decide +kernel
theorem dX7_leg_13 : decode cX7_leg 13 = .ok (.aload 4, 2) := by decide +kernel
theorem dX7_leg_15 : decode cX7_leg 15 = .ok (.getfield 137, 3) := by decide +kernel
theorem dX7_leg_18 : decode cX7_leg 18 = .ok (.getfield 146, 3) := by decide +kernel
theorem dX7_leg_21 : decode cX7_leg 21 = .ok (.invokestatic 91, 3) := by decide +kernel
theorem dX7_leg_24 : decode cX7_leg 24 = .ok (.ifCond .ne 5, 3) := by decide +kernel
theorem dX7_leg_27 : decode cX7_leg 27 = .ok (.iconst (-1), 1) := by decide +kernel
theorem dX7_leg_28 : decode cX7_leg 28 = .ok (.ireturn, 1) := by decide +kernel
theorem dX7_leg_29 : decode cX7_leg 29 = .ok (.iload_n 3, 1) := by decide +kernel
theorem dX7_leg_30 : decode cX7_leg 30 = .ok (.tableswitch 93 0 3 #[30, 41, 52, 59], 30) := by decide +kernel
theorem dX7_leg_60 : decode cX7_leg 60 = .ok (.aload 4, 2) := by decide +kernel
theorem dX7_leg_62 : decode cX7_leg 62 = .ok (.getfield 137, 3) := by decide +kernel
theorem dX7_leg_65 : decode cX7_leg 65 = .ok (.getfield 149, 3) := by decide +kernel
theorem dX7_leg_68 : decode cX7_leg 68 = .ok (.iload_n 2, 1) := by decide +kernel
theorem dX7_leg_69 : decode cX7_leg 69 = .ok (.iaload, 1) := by decide +kernel
theorem dX7_leg_70 : decode cX7_leg 70 = .ok (.ireturn, 1) := by decide +kernel
theorem dX7_leg_71 : decode cX7_leg 71 = .ok (.aload 4, 2) := by decide +kernel
theorem dX7_leg_73 : decode cX7_leg 73 = .ok (.getfield 137, 3) := by decide +kernel
theorem dX7_leg_76 : decode cX7_leg 76 = .ok (.getfield 152, 3) := by decide +kernel
theorem dX7_leg_79 : decode cX7_leg 79 = .ok (.iload_n 2, 1) := by decide +kernel
theorem dX7_leg_80 : decode cX7_leg 80 = .ok (.iaload, 1) := by decide +kernel
theorem dX7_leg_81 : decode cX7_leg 81 = .ok (.ireturn, 1) := by decide +kernel
theorem dX7_leg_82 : decode cX7_leg 82 = .ok (.aload 4, 2) := by decide +kernel
theorem dX7_leg_84 : decode cX7_leg 84 = .ok (.iload_n 2, 1) := by decide +kernel
theorem dX7_leg_85 : decode cX7_leg 85 = .ok (.invokevirtual 155, 3) := by decide +kernel
theorem dX7_leg_88 : decode cX7_leg 88 = .ok (.ireturn, 1) := by decide +kernel
theorem dX7_leg_89 : decode cX7_leg 89 = .ok (.aload_n 0, 1) := by decide +kernel
theorem dX7_leg_90 : decode cX7_leg 90 = .ok (.getfield 40, 3) := by decide +kernel
theorem dX7_leg_93 : decode cX7_leg 93 = .ok (.aload 4, 2) := by decide +kernel
theorem dX7_leg_95 : decode cX7_leg 95 = .ok (.iload_n 2, 1) := by decide +kernel
theorem dX7_leg_96 : decode cX7_leg 96 = .ok (.invokevirtual 155, 3) := by decide +kernel
theorem dX7_leg_99 : decode cX7_leg 99 = .ok (.aload 4, 2) := by decide +kernel
theorem dX7_leg_101 : decode cX7_leg 101 = .ok (.getfield 137, 3) := by decide +kernel
theorem dX7_leg_104 : decode cX7_leg 104 = .ok (.getfield 152, 3) := by decide +kernel
theorem dX7_leg_107 : decode cX7_leg 107 = .ok (.iload_n 2, 1) := by decide +kernel
theorem dX7_leg_108 : decode cX7_leg 108 = .ok (.iaload, 1) := by decide +kernel
theorem dX7_leg_109 : decode cX7_leg 109 = .ok (.aload 4, 2) := by decide +kernel
theorem dX7_leg_111 : decode cX7_leg 111 = .ok (.getfield 137, 3) := by decide +kernel
theorem dX7_leg_114 : decode cX7_leg 114 = .ok (.getfield 159, 3) := by decide +kernel
theorem dX7_leg_117 : decode cX7_leg 117 = .ok (.iload_n 2, 1) := by decide +kernel
theorem dX7_leg_118 : decode cX7_leg 118 = .ok (.iaload, 1) := by decide +kernel
theorem dX7_leg_119 : decode cX7_leg 119 = .ok (.invokevirtual 130, 3) := by decide +kernel
theorem dX7_leg_122 : decode cX7_leg 122 = .ok (.ireturn, 1) := by decide +kernel
theorem dX7_leg_123 : decode cX7_leg 123 = .ok (.iconst (-1), 1) := by decide +kernel
theorem dX7_leg_124 : decode cX7_leg 124 = .ok (.ireturn, 1) := by decide +kernel
theorem dX7_time_0 : decode cX7_time 0 = .ok (.aload_n 0, 1) := by decide +kernel
theorem dX7_time_1 : decode cX7_time 1 = .ok (.iload_n 1, 1) := by decide +kernel
theorem dX7_time_2 : decode cX7_time 2 = .ok (.invokevirtual 133, 3) := by decide +kernel
theorem dX7_time_5 : decode cX7_time 5 = .ok (.astore_n 2, 1) := by decide +kernel
theorem dX7_time_6 : decode cX7_time 6 = .ok (.aload_n 2, 1) := by decide +kernel
theorem dX7_time_7 : decode cX7_time 7 = .ok (.ifnonnull 5, 3) := by decide +kernel
theorem dX7_time_10 : decode cX7_time 10 = .ok (.iconst (-1), 1) := by decide +kernel
theorem dX7_time_11 : decode cX7_time 11 = .ok (.ireturn, 1) := by decide +kernel
theorem dX7_time_12 : decode cX7_time 12 = .ok (.iconst 0, 1) := by decide +kernel
theorem dX7_time_13 : decode cX7_time 13 = .ok (.istore_n 3, 1) := by decide +kernel
theorem dX7_time_14 : decode cX7_time 14 = .ok (.iconst 0, 1) := by decide +kernel
theorem dX7_time_15 : decode cX7_time 15 = .ok (.istore 4, 2) := by decide +kernel
theorem dX7_time_17 : decode cX7_time 17 = .ok (.iload 4, 2) := by decide +kernel
theorem dX7_time_19 : decode cX7_time 19 = .ok (.aload_n 2, 1) := by decide +kernel
theorem dX7_time_20 : decode cX7_time 20 = .ok (.getfield 137, 3) := by decide +kernel
theorem dX7_time_23 : decode cX7_time 23 = .ok (.getfield 146, 3) := by decide +kernel
theorem dX7_time_26 : decode cX7_time 26 = .ok (.if_icmp .ge 18, 3) := by decide +kernel
theorem dX7_time_29 : decode cX7_time 29 = .ok (.iload_n 3, 1) := by decide +kernel
theorem dX7_time_30 : decode cX7_time 30 = .ok (.aload_n 2, 1) := by decide +kernel
theorem dX7_time_31 : decode cX7_time 31 = .ok (.iload 4, 2) := by decide +kernel
theorem dX7_time_33 : decode cX7_time 33 = .ok (.invokevirtual 155, 3) := by decide +kernel
theorem dX7_time_36 : decode cX7_time 36 = .ok (.iadd, 1) := by decide +kernel
theorem dX7_time_37 : decode cX7_time 37 = .ok (.istore_n 3, 1) := by decide +kernel
theorem dX7_time_38 : decode cX7_time 38 = .ok (.iinc 4 1, 3) := by decide +kernel
theorem dX7_time_41 : decode cX7_time 41 = .ok (.goto (-24), 3) := by decide +kernel
theorem dX7_time_44 : decode cX7_time 44 = .ok (.iload_n 3, 1) := by decide +kernel
theorem dX7_time_45 : decode cX7_time 45 = .ok (.ireturn, 1) := by decide +kernel
theorem dX7_legal_0 : decode cX7_legal 0 = .ok (.aload_n 0, 1) := by decide +kernel
theorem dX7_legal_1 : decode cX7_legal 1 = .ok (.iload_n 1, 1) := by decide +kernel
theorem dX7_legal_2 : decode cX7_legal 2 = .ok (.invokevirtual 133, 3) := by decide +kernel
theorem dX7_legal_5 : decode cX7_legal 5 = .ok (.astore_n 2, 1) := by decide +kernel
theorem dX7_legal_6 : decode cX7_legal 6 = .ok (.aload_n 2, 1) := by decide +kernel
theorem dX7_legal_7 : decode cX7_legal 7 = .ok (.ifnonnull 7, 3) := by decide +kernel
theorem dX7_legal_10 : decode cX7_legal 10 = .ok (.iconst (-1), 1) := by decide +kernel
theorem dX7_legal_11 : decode cX7_legal 11 = .ok (.goto 24, 3) := by decide +kernel
theorem dX7_legal_14 : decode cX7_legal 14 = .ok (.aload_n 0, 1) := by decide +kernel
theorem dX7_legal_15 : decode cX7_legal 15 = .ok (.getfield 40, 3) := by decide +kernel
theorem dX7_legal_18 : decode cX7_legal 18 = .ok (.aload_n 2, 1) := by decide +kernel
theorem dX7_legal_19 : decode cX7_legal 19 = .ok (.getfield 137, 3) := by decide +kernel
theorem dX7_legal_22 : decode cX7_legal 22 = .ok (.getfield 141, 3) := by decide +kernel
theorem dX7_legal_25 : decode cX7_legal 25 = .ok (.aload_n 0, 1) := by decide +kernel
theorem dX7_legal_26 : decode cX7_legal 26 = .ok (.getfield 40, 3) := by decide +kernel
theorem dX7_legal_29 : decode cX7_legal 29 = .ok (.getfield 162, 3) := by decide +kernel
theorem dX7_legal_32 : decode cX7_legal 32 = .ok (.invokevirtual 165, 3) := by decide +kernel
theorem dX7_legal_35 : decode cX7_legal 35 = .ok (.ireturn, 1) := by decide +kernel
theorem dX7_borne_0 : decode cX7_borne 0 = .ok (.iload_n 1, 1) := by decide +kernel
theorem dX7_borne_1 : decode cX7_borne 1 = .ok (.iconst 1, 1) := by decide +kernel
theorem dX7_borne_2 : decode cX7_borne 2 = .ok (.if_icmp .lt 8, 3) := by decide +kernel
theorem dX7_borne_5 : decode cX7_borne 5 = .ok (.iload_n 1, 1) := by decide +kernel
theorem dX7_borne_6 : decode cX7_borne 6 = .ok (.iconst 3, 1) := by decide +kernel
theorem dX7_borne_7 : decode cX7_borne 7 = .ok (.if_icmp .le 5, 3) := by decide +kernel
theorem dX7_borne_10 : decode cX7_borne 10 = .ok (.iconst (-1), 1) := by decide +kernel
theorem dX7_borne_11 : decode cX7_borne 11 = .ok (.ireturn, 1) := by decide +kernel
theorem dX7_borne_12 : decode cX7_borne 12 = .ok (.iconst 0, 1) := by decide +kernel
theorem dX7_borne_13 : decode cX7_borne 13 = .ok (.istore_n 2, 1) := by decide +kernel
theorem dX7_borne_14 : decode cX7_borne 14 = .ok (.iload_n 2, 1) := by decide +kernel
theorem dX7_borne_15 : decode cX7_borne 15 = .ok (.iload_n 1, 1) := by decide +kernel
theorem dX7_borne_16 : decode cX7_borne 16 = .ok (.if_icmp .ge 19, 3) := by decide +kernel
theorem dX7_borne_19 : decode cX7_borne 19 = .ok (.aload_n 0, 1) := by decide +kernel
theorem dX7_borne_20 : decode cX7_borne 20 = .ok (.iload_n 2, 1) := by decide +kernel
theorem dX7_borne_21 : decode cX7_borne 21 = .ok (.invokevirtual 133, 3) := by decide +kernel
theorem dX7_borne_24 : decode cX7_borne 24 = .ok (.ifnonnull 5, 3) := by decide +kernel
theorem dX7_borne_27 : decode cX7_borne 27 = .ok (.iconst (-1), 1) := by decide +kernel
theorem dX7_borne_28 : decode cX7_borne 28 = .ok (.ireturn, 1) := by decide +kernel
theorem dX7_borne_29 : decode cX7_borne 29 = .ok (.iinc 2 1, 3) := by decide +kernel
theorem dX7_borne_32 : decode cX7_borne 32 = .ok (.goto (-18), 3) := by decide +kernel
theorem dX7_borne_35 : decode cX7_borne 35 = .ok (.iconst (-1), 1) := by decide +kernel
theorem dX7_borne_36 : decode cX7_borne 36 = .ok (.istore_n 2, 1) := by decide +kernel
theorem dX7_borne_37 : decode cX7_borne 37 = .ok (.iconst 0, 1) := by decide +kernel
theorem dX7_borne_38 : decode cX7_borne 38 = .ok (.istore_n 3, 1) := by decide +kernel
theorem dX7_borne_39 : decode cX7_borne 39 = .ok (.iload_n 3, 1) := by decide +kernel
theorem dX7_borne_40 : decode cX7_borne 40 = .ok (.iload_n 1, 1) := by decide +kernel
theorem dX7_borne_41 : decode cX7_borne 41 = .ok (.if_icmp .ge 45, 3) := by decide +kernel
theorem dX7_borne_44 : decode cX7_borne 44 = .ok (.aload_n 0, 1) := by decide +kernel
theorem dX7_borne_45 : decode cX7_borne 45 = .ok (.aload_n 0, 1) := by decide +kernel
theorem dX7_borne_46 : decode cX7_borne 46 = .ok (.getfield 46, 3) := by decide +kernel
theorem dX7_borne_49 : decode cX7_borne 49 = .ok (.iload_n 3, 1) := by decide +kernel
theorem dX7_borne_50 : decode cX7_borne 50 = .ok (.aaload, 1) := by decide +kernel
theorem dX7_borne_51 : decode cX7_borne 51 = .ok (.getfield 137, 3) := by decide +kernel
theorem dX7_borne_54 : decode cX7_borne 54 = .ok (.iload_n 1, 1) := by decide +kernel
theorem dX7_borne_55 : decode cX7_borne 55 = .ok (.invokevirtual 168, 3) := by decide +kernel
theorem dX7_borne_58 : decode cX7_borne 58 = .ok (.istore 4, 2) := by decide +kernel
theorem dX7_borne_60 : decode cX7_borne 60 = .ok (.iload 4, 2) := by decide +kernel
theorem dX7_borne_62 : decode cX7_borne 62 = .ok (.iconst (-1), 1) := by decide +kernel
theorem dX7_borne_63 : decode cX7_borne 63 = .ok (.if_icmp .eq 17, 3) := by decide +kernel
theorem dX7_borne_66 : decode cX7_borne 66 = .ok (.iload_n 2, 1) := by decide +kernel
theorem dX7_borne_67 : decode cX7_borne 67 = .ok (.iconst (-1), 1) := by decide +kernel
theorem dX7_borne_68 : decode cX7_borne 68 = .ok (.if_icmp .eq 9, 3) := by decide +kernel
theorem dX7_borne_71 : decode cX7_borne 71 = .ok (.iload 4, 2) := by decide +kernel
theorem dX7_borne_73 : decode cX7_borne 73 = .ok (.iload_n 2, 1) := by decide +kernel
theorem dX7_borne_74 : decode cX7_borne 74 = .ok (.if_icmp .ge 6, 3) := by decide +kernel
theorem dX7_borne_77 : decode cX7_borne 77 = .ok (.iload 4, 2) := by decide +kernel
theorem dX7_borne_79 : decode cX7_borne 79 = .ok (.istore_n 2, 1) := by decide +kernel
theorem dX7_borne_80 : decode cX7_borne 80 = .ok (.iinc 3 1, 3) := by decide +kernel
theorem dX7_borne_83 : decode cX7_borne 83 = .ok (.goto (-44), 3) := by decide +kernel
theorem dX7_borne_86 : decode cX7_borne 86 = .ok (.iload_n 2, 1) := by decide +kernel
theorem dX7_borne_87 : decode cX7_borne 87 = .ok (.ireturn, 1) := by decide +kernel
theorem dX7_at_0 : decode cX7_at 0 = .ok (.aload_n 0, 1) := by decide +kernel
theorem dX7_at_1 : decode cX7_at 1 = .ok (.iload_n 1, 1) := by decide +kernel
theorem dX7_at_2 : decode cX7_at 2 = .ok (.invokevirtual 133, 3) := by decide +kernel
theorem dX7_at_5 : decode cX7_at 5 = .ok (.astore 4, 2) := by decide +kernel
theorem dX7_at_7 : decode cX7_at 7 = .ok (.aload 4, 2) := by decide +kernel
theorem dX7_at_9 : decode cX7_at 9 = .ok (.ifnull 28, 3) := by decide +kernel
theorem dX7_at_12 : decode cX7_at 12 = .ok (.aload 4, 2) := by decide +kernel
theorem dX7_at_14 : decode cX7_at 14 = .ok (.iload_n 2, 1) := by decide +kernel
theorem dX7_at_15 : decode cX7_at 15 = .ok (.invokevirtual 172, 3) := by decide +kernel
theorem dX7_at_18 : decode cX7_at 18 = .ok (.ifCond .eq 19, 3) := by decide +kernel
theorem dX7_at_21 : decode cX7_at 21 = .ok (.iload_n 3, 1) := by decide +kernel
theorem dX7_at_22 : decode cX7_at 22 = .ok (.ifCond .lt 15, 3) := by decide +kernel
theorem dX7_at_25 : decode cX7_at 25 = .ok (.iload_n 3, 1) := by decide +kernel
theorem dX7_at_26 : decode cX7_at 26 = .ok (.aload 4, 2) := by decide +kernel
theorem dX7_at_28 : decode cX7_at 28 = .ok (.getfield 137, 3) := by decide +kernel
theorem dX7_at_31 : decode cX7_at 31 = .ok (.getfield 146, 3) := by decide +kernel
theorem dX7_at_34 : decode cX7_at 34 = .ok (.if_icmp .le 5, 3) := by decide +kernel
theorem dX7_at_37 : decode cX7_at 37 = .ok (.iconst (-1), 1) := by decide +kernel
theorem dX7_at_38 : decode cX7_at 38 = .ok (.ireturn, 1) := by decide +kernel
theorem dX7_at_39 : decode cX7_at 39 = .ok (.iload_n 2, 1) := by decide +kernel
theorem dX7_at_40 : decode cX7_at 40 = .ok (.istore 5, 2) := by decide +kernel
theorem dX7_at_42 : decode cX7_at 42 = .ok (.iconst 0, 1) := by decide +kernel
