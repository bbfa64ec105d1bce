theorem dX10_in_0 : decode cX10_in 0 = .ok (.lload_n 0, 1) := by decide +kernel
theorem dX10_in_1 : decode cX10_in 1 = .ok (.lload_n 2, 1) := by decide +kernel
theorem dX10_in_2 : decode cX10_in 2 = .ok (.lcmp, 1) := by decide +kernel
theorem dX10_in_3 : decode cX10_in 3 = .ok (.ifCond .lt 14, 3) := by decide +kernel
theorem dX10_in_6 : decode cX10_in 6 = .ok (.lload_n 0, 1) := by decide +kernel
theorem dX10_in_7 : decode cX10_in 7 = .ok (.lload 4, 2) := by decide +kernel
theorem dX10_in_9 : decode cX10_in 9 = .ok (.lcmp, 1) := by decide +kernel
theorem dX10_in_10 : decode cX10_in 10 = .ok (.ifCond .gt 7, 3) := by decide +kernel
theorem dX10_in_13 : decode cX10_in 13 = .ok (.iconst 1, 1) := by decide +kernel
theorem dX10_in_14 : decode cX10_in 14 = .ok (.goto 4, 3) := by decide +kernel
theorem dX10_in_17 : decode cX10_in 17 = .ok (.iconst 0, 1) := by decide +kernel
theorem dX10_in_18 : decode cX10_in 18 = .ok (.ireturn, 1) := by decide +kernel
theorem dX10_empties_0 : decode cX10_empties 0 = .ok (.iconst 0, 1) := by decide +kernel
theorem dX10_empties_1 : decode cX10_empties 1 = .ok (.istore_n 1, 1) := by decide +kernel
theorem dX10_empties_2 : decode cX10_empties 2 = .ok (.iload_n 1, 1) := by decide +kernel
theorem dX10_empties_3 : decode cX10_empties 3 = .ok (.sipush 178, 3) := by decide +kernel
theorem dX10_empties_6 : decode cX10_empties 6 = .ok (.if_icmp .ge 13, 3) := by decide +kernel
theorem dX10_empties_9 : decode cX10_empties 9 = .ok (.aload_n 0, 1) := by decide +kernel
theorem dX10_empties_10 : decode cX10_empties 10 = .ok (.iload_n 1, 1) := by decide +kernel
theorem dX10_empties_11 : decode cX10_empties 11 = .ok (.iconst 0, 1) := by decide +kernel
theorem dX10_empties_12 : decode cX10_empties 12 = .ok (.iastore, 1) := by decide +kernel
theorem dX10_empties_13 : decode cX10_empties 13 = .ok (.iinc 1 1, 3) := by decide +kernel
theorem dX10_empties_16 : decode cX10_empties 16 = .ok (.goto (-14), 3) := by decide +kernel
theorem dX10_empties_19 : decode cX10_empties 19 = .ok (.aload_n 0, 1) := by decide +kernel
theorem dX10_empties_20 : decode cX10_empties 20 = .ok (.iconst 3, 1) := by decide +kernel
theorem dX10_empties_21 : decode cX10_empties 21 = .ok (.iconst 2, 1) := by decide +kernel
theorem dX10_empties_22 : decode cX10_empties 22 = .ok (.iastore, 1) := by decide +kernel
theorem dX10_empties_23 : decode cX10_empties 23 = .ok (.iconst 0, 1) := by decide +kernel
theorem dX10_empties_24 : decode cX10_empties 24 = .ok (.istore_n 1, 1) := by decide +kernel
theorem dX10_empties_25 : decode cX10_empties 25 = .ok (.iload_n 1, 1) := by decide +kernel
theorem dX10_empties_26 : decode cX10_empties 26 = .ok (.bipush 64, 2) := by decide +kernel
theorem dX10_empties_28 : decode cX10_empties 28 = .ok (.if_icmp .ge 16, 3) := by decide +kernel
theorem dX10_empties_31 : decode cX10_empties 31 = .ok (.aload_n 0, 1) := by decide +kernel
theorem dX10_empties_32 : decode cX10_empties 32 = .ok (.bipush 96, 2) := by decide +kernel
theorem dX10_empties_34 : decode cX10_empties 34 = .ok (.iload_n 1, 1) := by decide +kernel
theorem dX10_empties_35 : decode cX10_empties 35 = .ok (.iadd, 1) := by decide +kernel
theorem dX10_empties_36 : decode cX10_empties 36 = .ok (.iconst 1, 1) := by decide +kernel
theorem dX10_empties_37 : decode cX10_empties 37 = .ok (.iastore, 1) := by decide +kernel
theorem dX10_empties_38 : decode cX10_empties 38 = .ok (.iinc 1 1, 3) := by decide +kernel
theorem dX10_empties_41 : decode cX10_empties 41 = .ok (.goto (-16), 3) := by decide +kernel
theorem dX10_empties_44 : decode cX10_empties 44 = .ok (.return_, 1) := by decide +kernel
theorem dX10_keep_0 : decode cX10_keep 0 = .ok (.iload_n 1, 1) := by decide +kernel
theorem dX10_keep_1 : decode cX10_keep 1 = .ok (.i2l, 1) := by decide +kernel
theorem dX10_keep_2 : decode cX10_keep 2 = .ok (.lconst 0, 1) := by decide +kernel
theorem dX10_keep_3 : decode cX10_keep 3 = .ok (.ldc2_w 96, 3) := by decide +kernel
theorem dX10_keep_6 : decode cX10_keep 6 = .ok (.invokestatic 98, 3) := by decide +kernel
theorem dX10_keep_9 : decode cX10_keep 9 = .ok (.ifCond .ne 6, 3) := by decide +kernel
theorem dX10_keep_12 : decode cX10_keep 12 = .ok (.bipush (-2), 2) := by decide +kernel
theorem dX10_keep_14 : decode cX10_keep 14 = .ok (.ireturn, 1) := by decide +kernel
theorem dX10_keep_15 : decode cX10_keep 15 = .ok (.iconst 0, 1) := by decide +kernel
theorem dX10_keep_16 : decode cX10_keep 16 = .ok (.istore_n 2, 1) := by decide +kernel
theorem dX10_keep_17 : decode cX10_keep 17 = .ok (.iload_n 2, 1) := by decide +kernel
theorem dX10_keep_18 : decode cX10_keep 18 = .ok (.sipush 178, 3) := by decide +kernel
theorem dX10_keep_21 : decode cX10_keep 21 = .ok (.if_icmp .ge 27, 3) := by decide +kernel
theorem dX10_keep_24 : decode cX10_keep 24 = .ok (.aload_n 0, 1) := by decide +kernel
theorem dX10_keep_25 : decode cX10_keep 25 = .ok (.getfield 17, 3) := by decide +kernel
theorem dX10_keep_28 : decode cX10_keep 28 = .ok (.sipush 178, 3) := by decide +kernel
theorem dX10_keep_31 : decode cX10_keep 31 = .ok (.iload_n 1, 1) := by decide +kernel
theorem dX10_keep_32 : decode cX10_keep 32 = .ok (.imul, 1) := by decide +kernel
theorem dX10_keep_33 : decode cX10_keep 33 = .ok (.iload_n 2, 1) := by decide +kernel
theorem dX10_keep_34 : decode cX10_keep 34 = .ok (.iadd, 1) := by decide +kernel
theorem dX10_keep_35 : decode cX10_keep 35 = .ok (.aload_n 0, 1) := by decide +kernel
theorem dX10_keep_36 : decode cX10_keep 36 = .ok (.getfield 13, 3) := by decide +kernel
theorem dX10_keep_39 : decode cX10_keep 39 = .ok (.iload_n 2, 1) := by decide +kernel
theorem dX10_keep_40 : decode cX10_keep 40 = .ok (.iaload, 1) := by decide +kernel
theorem dX10_keep_41 : decode cX10_keep 41 = .ok (.iastore, 1) := by decide +kernel
theorem dX10_keep_42 : decode cX10_keep 42 = .ok (.iinc 2 1, 3) := by decide +kernel
theorem dX10_keep_45 : decode cX10_keep 45 = .ok (.goto (-28), 3) := by decide +kernel
theorem dX10_keep_48 : decode cX10_keep 48 = .ok (.aload_n 0, 1) := by decide +kernel
theorem dX10_keep_49 : decode cX10_keep 49 = .ok (.getfield 20, 3) := by decide +kernel
theorem dX10_keep_52 : decode cX10_keep 52 = .ok (.iload_n 1, 1) := by decide +kernel
theorem dX10_keep_53 : decode cX10_keep 53 = .ok (.aload_n 0, 1) := by decide +kernel
theorem dX10_keep_54 : decode cX10_keep 54 = .ok (.getfield 102, 3) := by decide +kernel
theorem dX10_keep_57 : decode cX10_keep 57 = .ok (.lastore, 1) := by decide +kernel
theorem dX10_keep_58 : decode cX10_keep 58 = .ok (.aload_n 0, 1) := by decide +kernel
theorem dX10_keep_59 : decode cX10_keep 59 = .ok (.getfield 24, 3) := by decide +kernel
theorem dX10_keep_62 : decode cX10_keep 62 = .ok (.iload_n 1, 1) := by decide +kernel
theorem dX10_keep_63 : decode cX10_keep 63 = .ok (.iconst 1, 1) := by decide +kernel
theorem dX10_keep_64 : decode cX10_keep 64 = .ok (.bastore, 1) := by decide +kernel
theorem dX10_keep_65 : decode cX10_keep 65 = .ok (.iconst 0, 1) := by decide +kernel
theorem dX10_keep_66 : decode cX10_keep 66 = .ok (.ireturn, 1) := by decide +kernel
theorem dX10_back_0 : decode cX10_back 0 = .ok (.iload_n 1, 1) := by decide +kernel
theorem dX10_back_1 : decode cX10_back 1 = .ok (.i2l, 1) := by decide +kernel
theorem dX10_back_2 : decode cX10_back 2 = .ok (.lconst 0, 1) := by decide +kernel
theorem dX10_back_3 : decode cX10_back 3 = .ok (.ldc2_w 96, 3) := by decide +kernel
theorem dX10_back_6 : decode cX10_back 6 = .ok (.invokestatic 98, 3) := by decide +kernel
theorem dX10_back_9 : decode cX10_back 9 = .ok (.ifCond .ne 6, 3) := by decide +kernel
theorem dX10_back_12 : decode cX10_back 12 = .ok (.bipush (-2), 2) := by decide +kernel
theorem dX10_back_14 : decode cX10_back 14 = .ok (.ireturn, 1) := by decide +kernel
theorem dX10_back_15 : decode cX10_back 15 = .ok (.aload_n 0, 1) := by decide +kernel
theorem dX10_back_16 : decode cX10_back 16 = .ok (.getfield 24, 3) := by decide +kernel
theorem dX10_back_19 : decode cX10_back 19 = .ok (.iload_n 1, 1) := by decide +kernel
theorem dX10_back_20 : decode cX10_back 20 = .ok (.baload, 1) := by decide +kernel
theorem dX10_back_21 : decode cX10_back 21 = .ok (.ifCond .ne 6, 3) := by decide +kernel
theorem dX10_back_24 : decode cX10_back 24 = .ok (.bipush (-6), 2) := by decide +kernel
theorem dX10_back_26 : decode cX10_back 26 = .ok (.ireturn, 1) := by decide +kernel
theorem dX10_back_27 : decode cX10_back 27 = .ok (.iconst 0, 1) := by decide +kernel
theorem dX10_back_28 : decode cX10_back 28 = .ok (.istore_n 2, 1) := by decide +kernel
theorem dX10_back_29 : decode cX10_back 29 = .ok (.iload_n 2, 1) := by decide +kernel
theorem dX10_back_30 : decode cX10_back 30 = .ok (.sipush 178, 3) := by decide +kernel
theorem dX10_back_33 : decode cX10_back 33 = .ok (.if_icmp .ge 27, 3) := by decide +kernel
theorem dX10_back_36 : decode cX10_back 36 = .ok (.aload_n 0, 1) := by decide +kernel
theorem dX10_back_37 : decode cX10_back 37 = .ok (.getfield 13, 3) := by decide +kernel
theorem dX10_back_40 : decode cX10_back 40 = .ok (.iload_n 2, 1) := by decide +kernel
theorem dX10_back_41 : decode cX10_back 41 = .ok (.aload_n 0, 1) := by decide +kernel
theorem dX10_back_42 : decode cX10_back 42 = .ok (.getfield 17, 3) := by decide +kernel
theorem dX10_back_45 : decode cX10_back 45 = .ok (.sipush 178, 3) := by decide +kernel
theorem dX10_back_48 : decode cX10_back 48 = .ok (.iload_n 1, 1) := by decide +kernel
theorem dX10_back_49 : decode cX10_back 49 = .ok (.imul, 1) := by decide +kernel
theorem dX10_back_50 : decode cX10_back 50 = .ok (.iload_n 2, 1) := by decide +kernel
theorem dX10_back_51 : decode cX10_back 51 = .ok (.iadd, 1) := by decide +kernel
theorem dX10_back_52 : decode cX10_back 52 = .ok (.iaload, 1) := by decide +kernel
theorem dX10_back_53 : decode cX10_back 53 = .ok (.iastore, 1) := by decide +kernel
theorem dX10_back_54 : decode cX10_back 54 = .ok (.iinc 2 1, 3) := by decide +kernel
theorem dX10_back_57 : decode cX10_back 57 = .ok (.goto (-28), 3) := by decide +kernel
theorem dX10_back_60 : decode cX10_back 60 = .ok (.aload_n 0, 1) := by decide +kernel
theorem dX10_back_61 : decode cX10_back 61 = .ok (.aload_n 0, 1) := by decide +kernel
theorem dX10_back_62 : decode cX10_back 62 = .ok (.getfield 20, 3) := by decide +kernel
theorem dX10_back_65 : decode cX10_back 65 = .ok (.iload_n 1, 1) := by decide +kernel
theorem dX10_back_66 : decode cX10_back 66 = .ok (.laload, 1) := by decide +kernel
theorem dX10_back_67 : decode cX10_back 67 = .ok (.putfield 102, 3) := by decide +kernel
theorem dX10_back_70 : decode cX10_back 70 = .ok (.iconst 0, 1) := by decide +kernel
theorem dX10_back_71 : decode cX10_back 71 = .ok (.ireturn, 1) := by decide +kernel
theorem dX10_of_0 : decode cX10_of 0 = .ok (.aload_n 0, 1) := by decide +kernel
theorem dX10_of_1 : decode cX10_of 1 = .ok (.getfield 13, 3) := by decide +kernel
theorem dX10_of_4 : decode cX10_of 4 = .ok (.bipush 16, 2) := by decide +kernel
theorem dX10_of_6 : decode cX10_of 6 = .ok (.bipush 10, 2) := by decide +kernel
theorem dX10_of_8 : decode cX10_of 8 = .ok (.iload_n 1, 1) := by decide +kernel
theorem dX10_of_9 : decode cX10_of 9 = .ok (.imul, 1) := by decide +kernel
theorem dX10_of_10 : decode cX10_of 10 = .ok (.iadd, 1) := by decide +kernel
theorem dX10_of_11 : decode cX10_of 11 = .ok (.iload_n 2, 1) := by decide +kernel
theorem dX10_of_12 : decode cX10_of 12 = .ok (.iadd, 1) := by decide +kernel
theorem dX10_of_13 : decode cX10_of 13 = .ok (.iaload, 1) := by decide +kernel
theorem dX10_of_14 : decode cX10_of 14 = .ok (.ireturn, 1) := by decide +kernel
theorem dX10_set_0 : decode cX10_set 0 = .ok (.aload_n 0, 1) := by decide +kernel
theorem dX10_set_1 : decode cX10_set 1 = .ok (.getfield 13, 3) := by decide +kernel
theorem dX10_set_4 : decode cX10_set 4 = .ok (.bipush 16, 2) := by decide +kernel
theorem dX10_set_6 : decode cX10_set 6 = .ok (.bipush 10, 2) := by decide +kernel
theorem dX10_set_8 : decode cX10_set 8 = .ok (.iload_n 1, 1) := by decide +kernel
theorem dX10_set_9 : decode cX10_set 9 = .ok (.imul, 1) := by decide +kernel
theorem dX10_set_10 : decode cX10_set 10 = .ok (.iadd, 1) := by decide +kernel
theorem dX10_set_11 : decode cX10_set 11 = .ok (.iload_n 2, 1) := by decide +kernel
theorem dX10_set_12 : decode cX10_set 12 = .ok (.iadd, 1) := by decide +kernel
theorem dX10_set_13 : decode cX10_set 13 = .ok (.iload_n 3, 1) := by decide +kernel
theorem dX10_set_14 : decode cX10_set 14 = .ok (.iastore, 1) := by decide +kernel
theorem dX10_set_15 : decode cX10_set 15 = .ok (.return_, 1) := by decide +kernel
theorem dX10_people_0 : decode cX10_people 0 = .ok (.aload_n 0, 1) := by decide +kernel
theorem dX10_people_1 : decode cX10_people 1 = .ok (.getfield 13, 3) := by decide +kernel
theorem dX10_people_4 : decode cX10_people 4 = .ok (.bipush 7, 2) := by decide +kernel
theorem dX10_people_6 : decode cX10_people 6 = .ok (.iaload, 1) := by decide +kernel
theorem dX10_people_7 : decode cX10_people 7 = .ok (.ireturn, 1) := by decide +kernel
theorem dX10_isPerson_0 : decode cX10_isPerson 0 = .ok (.iload_n 1, 1) := by decide +kernel
theorem dX10_isPerson_1 : decode cX10_isPerson 1 = .ok (.i2l, 1) := by decide +kernel
theorem dX10_isPerson_2 : decode cX10_isPerson 2 = .ok (.lconst 0, 1) := by decide +kernel
theorem dX10_isPerson_3 : decode cX10_isPerson 3 = .ok (.aload_n 0, 1) := by decide +kernel
theorem dX10_isPerson_4 : decode cX10_isPerson 4 = .ok (.getfield 13, 3) := by decide +kernel
theorem dX10_isPerson_7 : decode cX10_isPerson 7 = .ok (.bipush 7, 2) := by decide +kernel
theorem dX10_isPerson_9 : decode cX10_isPerson 9 = .ok (.iaload, 1) := by decide +kernel
theorem dX10_isPerson_10 : decode cX10_isPerson 10 = .ok (.iconst 1, 1) := by decide +kernel
theorem dX10_isPerson_11 : decode cX10_isPerson 11 = .ok (.isub, 1) := by decide +kernel
theorem dX10_isPerson_12 : decode cX10_isPerson 12 = .ok (.i2l, 1) := by decide +kernel
theorem dX10_isPerson_13 : decode cX10_isPerson 13 = .ok (.invokestatic 98, 3) := by decide +kernel
theorem dX10_isPerson_16 : decode cX10_isPerson 16 = .ok (.ireturn, 1) := by decide +kernel
theorem dX10_areTwo_0 : decode cX10_areTwo 0 = .ok (.aload_n 0, 1) := by decide +kernel
theorem dX10_areTwo_1 : decode cX10_areTwo 1 = .ok (.iload_n 1, 1) := by decide +kernel
theorem dX10_areTwo_2 : decode cX10_areTwo 2 = .ok (.invokevirtual 106, 3) := by decide +kernel
theorem dX10_areTwo_5 : decode cX10_areTwo 5 = .ok (.ifCond .eq 20, 3) := by decide +kernel
theorem dX10_areTwo_8 : decode cX10_areTwo 8 = .ok (.aload_n 0, 1) := by decide +kernel
theorem dX10_areTwo_9 : decode cX10_areTwo 9 = .ok (.iload_n 2, 1) := by decide +kernel
theorem dX10_areTwo_10 : decode cX10_areTwo 10 = .ok (.invokevirtual 106, 3) := by decide +kernel
theorem dX10_areTwo_13 : decode cX10_areTwo 13 = .ok (.ifCond .eq 12, 3) := by decide +kernel
theorem dX10_areTwo_16 : decode cX10_areTwo 16 = .ok (.iload_n 1, 1) := by decide +kernel
theorem dX10_areTwo_17 : decode cX10_areTwo 17 = .ok (.iload_n 2, 1) := by decide +kernel
theorem dX10_areTwo_18 : decode cX10_areTwo 18 = .ok (.if_icmp .eq 7, 3) := by decide +kernel
theorem dX10_areTwo_21 : decode cX10_areTwo 21 = .ok (.iconst 1, 1) := by decide +kernel
theorem dX10_areTwo_22 : decode cX10_areTwo 22 = .ok (.goto 4, 3) := by decide +kernel
theorem dX10_areTwo_25 : decode cX10_areTwo 25 = .ok (.iconst 0, 1) := by decide +kernel
theorem dX10_areTwo_26 : decode cX10_areTwo 26 = .ok (.ireturn, 1) := by decide +kernel
theorem dX10_feed_0 : decode cX10_feed 0 = .ok (.aload_n 0, 1) := by decide +kernel
theorem dX10_feed_1 : decode cX10_feed 1 = .ok (.getfield 110, 3) := by decide +kernel
theorem dX10_feed_4 : decode cX10_feed 4 = .ok (.bipush 20, 2) := by decide +kernel
theorem dX10_feed_6 : decode cX10_feed 6 = .ok (.iadd, 1) := by decide +kernel
theorem dX10_feed_7 : decode cX10_feed 7 = .ok (.sipush 1600, 3) := by decide +kernel
theorem dX10_feed_10 : decode cX10_feed 10 = .ok (.if_icmp .le 5, 3) := by decide +kernel
theorem dX10_feed_13 : decode cX10_feed 13 = .ok (.iconst (-1), 1) := by decide +kernel
theorem dX10_feed_14 : decode cX10_feed 14 = .ok (.ireturn, 1) := by decide +kernel
theorem dX10_feed_15 : decode cX10_feed 15 = .ok (.aload_n 0, 1) := by decide +kernel
theorem dX10_feed_16 : decode cX10_feed 16 = .ok (.getfield 32, 3) := by decide +kernel
theorem dX10_feed_19 : decode cX10_feed 19 = .ok (.iconst 0, 1) := by decide +kernel
theorem dX10_feed_20 : decode cX10_feed 20 = .ok (.iload_n 1, 1) := by decide +kernel
theorem dX10_feed_21 : decode cX10_feed 21 = .ok (.iastore, 1) := by decide +kernel
theorem dX10_feed_22 : decode cX10_feed 22 = .ok (.aload_n 0, 1) := by decide +kernel
theorem dX10_feed_23 : decode cX10_feed 23 = .ok (.getfield 32, 3) := by decide +kernel
theorem dX10_feed_26 : decode cX10_feed 26 = .ok (.iconst 1, 1) := by decide +kernel
theorem dX10_feed_27 : decode cX10_feed 27 = .ok (.iload_n 2, 1) := by decide +kernel
theorem dX10_feed_28 : decode cX10_feed 28 = .ok (.iastore, 1) := by decide +kernel
theorem dX10_feed_29 : decode cX10_feed 29 = .ok (.aload_n 0, 1) := by decide +kernel
theorem dX10_feed_30 : decode cX10_feed 30 = .ok (.getfield 32, 3) := by decide +kernel
theorem dX10_feed_33 : decode cX10_feed 33 = .ok (.iconst 2, 1) := by decide +kernel
theorem dX10_feed_34 : decode cX10_feed 34 = .ok (.iload_n 3, 1) := by decide +kernel
theorem dX10_feed_35 : decode cX10_feed 35 = .ok (.iastore, 1) := by decide +kernel
theorem dX10_feed_36 : decode cX10_feed 36 = .ok (.aload_n 0, 1) := by decide +kernel
theorem dX10_feed_37 : decode cX10_feed 37 = .ok (.getfield 32, 3) := by decide +kernel
theorem dX10_feed_40 : decode cX10_feed 40 = .ok (.iconst 3, 1) := by decide +kernel
theorem dX10_feed_41 : decode cX10_feed 41 = .ok (.iload 4, 2) := by decide +kernel
theorem dX10_feed_43 : decode cX10_feed 43 = .ok (.iastore, 1) := by decide +kernel
theorem dX10_feed_44 : decode cX10_feed 44 = .ok (.aload_n 0, 1) := by decide +kernel
theorem dX10_feed_45 : decode cX10_feed 45 = .ok (.getfield 32, 3) := by decide +kernel
theorem dX10_feed_48 : decode cX10_feed 48 = .ok (.iconst 4, 1) := by decide +kernel
theorem dX10_feed_49 : decode cX10_feed 49 = .ok (.iload 5, 2) := by decide +kernel
theorem dX10_feed_51 : decode cX10_feed 51 = .ok (.iastore, 1) := by decide +kernel
theorem dX10_feed_52 : decode cX10_feed 52 = .ok (.iconst 0, 1) := by decide +kernel
theorem dX10_feed_53 : decode cX10_feed 53 = .ok (.istore 6, 2) := by decide +kernel
theorem dX10_feed_55 : decode cX10_feed 55 = .ok (.iload 6, 2) := by decide +kernel
theorem dX10_feed_57 : decode cX10_feed 57 = .ok (.bipush 20, 2) := by decide +kernel
theorem dX10_feed_59 : decode cX10_feed 59 = .ok (.if_icmp .ge 42, 3) := by decide +kernel
theorem dX10_feed_62 : decode cX10_feed 62 = .ok (.aload_n 0, 1) := by decide +kernel
theorem dX10_feed_63 : decode cX10_feed 63 = .ok (.getfield 28, 3) := by decide +kernel
theorem dX10_feed_66 : decode cX10_feed 66 = .ok (.aload_n 0, 1) := by decide +kernel
theorem dX10_feed_67 : decode cX10_feed 67 = .ok (.getfield 110, 3) := by decide +kernel
theorem dX10_feed_70 : decode cX10_feed 70 = .ok (.iload 6, 2) := by decide +kernel
theorem dX10_feed_72 : decode cX10_feed 72 = .ok (.iadd, 1) := by decide +kernel
theorem dX10_feed_73 : decode cX10_feed 73 = .ok (.aload_n 0, 1) := by decide +kernel
theorem dX10_feed_74 : decode cX10_feed 74 = .ok (.getfield 32, 3) := by decide +kernel
theorem dX10_feed_77 : decode cX10_feed 77 = .ok (.iload 6, 2) := by decide +kernel
theorem dX10_feed_79 : decode cX10_feed 79 = .ok (.iconst 4, 1) := by decide +kernel
theorem dX10_feed_80 : decode cX10_feed 80 = .ok (.idiv, 1) := by decide +kernel
theorem dX10_feed_81 : decode cX10_feed 81 = .ok (.iaload, 1) := by decide +kernel
theorem dX10_feed_82 : decode cX10_feed 82 = .ok (.bipush 24, 2) := by decide +kernel
theorem dX10_feed_84 : decode cX10_feed 84 = .ok (.bipush 8, 2) := by decide +kernel
theorem dX10_feed_86 : decode cX10_feed 86 = .ok (.iload 6, 2) := by decide +kernel
theorem dX10_feed_88 : decode cX10_feed 88 = .ok (.iconst 4, 1) := by decide +kernel
theorem dX10_feed_89 : decode cX10_feed 89 = .ok (.irem, 1) := by decide +kernel
theorem dX10_feed_90 : decode cX10_feed 90 = .ok (.imul, 1) := by decide +kernel
theorem dX10_feed_91 : decode cX10_feed 91 = .ok (.isub, 1) := by decide +kernel
theorem dX10_feed_92 : decode cX10_feed 92 = .ok (.ishr, 1) := by decide +kernel
theorem dX10_feed_93 : decode cX10_feed 93 = .ok (.i2b, 1) := by decide +kernel
theorem dX10_feed_94 : decode cX10_feed 94 = .ok (.bastore, 1) := by decide +kernel
theorem dX10_feed_95 : decode cX10_feed 95 = .ok (.iinc 6 1, 3) := by decide +kernel
theorem dX10_feed_98 : decode cX10_feed 98 = .ok (.goto (-43), 3) := by decide +kernel
theorem dX10_feed_101 : decode cX10_feed 101 = .ok (.aload_n 0, 1) := by decide +kernel
theorem dX10_feed_102 : decode cX10_feed 102 = .ok (.dup, 1) := by decide +kernel
theorem dX10_feed_103 : decode cX10_feed 103 = .ok (.getfield 110, 3) := by decide +kernel
theorem dX10_feed_106 : decode cX10_feed 106 = .ok (.bipush 20, 2) := by decide +kernel
theorem dX10_feed_108 : decode cX10_feed 108 = .ok (.iadd, 1) := by decide +kernel
theorem dX10_feed_109 : decode cX10_feed 109 = .ok (.putfield 110, 3) := by decide +kernel
theorem dX10_feed_112 : decode cX10_feed 112 = .ok (.aload_n 0, 1) := by decide +kernel
theorem dX10_feed_113 : decode cX10_feed 113 = .ok (.getfield 110, 3) := by decide +kernel
theorem dX10_feed_116 : decode cX10_feed 116 = .ok (.ireturn, 1) := by decide +kernel
theorem dX10_end_0 : decode cX10_end 0 = .ok (.iload_n 1, 1) := by decide +kernel
theorem dX10_end_1 : decode cX10_end 1 = .ok (.i2l, 1) := by decide +kernel
theorem dX10_end_2 : decode cX10_end 2 = .ok (.lconst 0, 1) := by decide +kernel
theorem dX10_end_3 : decode cX10_end 3 = .ok (.aload_n 0, 1) := by decide +kernel
theorem dX10_end_4 : decode cX10_end 4 = .ok (.getfield 110, 3) := by decide +kernel
theorem dX10_end_7 : decode cX10_end 7 = .ok (.i2l, 1) := by decide +kernel
theorem dX10_end_8 : decode cX10_end 8 = .ok (.invokestatic 98, 3) := by decide +kernel
theorem dX10_end_11 : decode cX10_end 11 = .ok (.ifCond .ne 5, 3) := by decide +kernel
theorem dX10_end_14 : decode cX10_end 14 = .ok (.iconst (-1), 1) := by decide +kernel
theorem dX10_end_15 : decode cX10_end 15 = .ok (.ireturn, 1) := by decide +kernel
theorem dX10_end_16 : decode cX10_end 16 = .ok (.aload_n 0, 1) := by decide +kernel
theorem dX10_end_17 : decode cX10_end 17 = .ok (.iload_n 1, 1) := by decide +kernel
theorem dX10_end_18 : decode cX10_end 18 = .ok (.putfield 110, 3) := by decide +kernel
theorem dX10_end_21 : decode cX10_end 21 = .ok (.iload_n 1, 1) := by decide +kernel
theorem dX10_end_22 : decode cX10_end 22 = .ok (.ireturn, 1) := by decide +kernel
theorem dX10_see_0 : decode cX10_see 0 = .ok (.iload_n 1, 1) := by decide +kernel
theorem dX10_see_1 : decode cX10_see 1 = .ok (.aload_n 0, 1) := by decide +kernel
theorem dX10_see_2 : decode cX10_see 2 = .ok (.getfield 113, 3) := by decide +kernel
theorem dX10_see_5 : decode cX10_see 5 = .ok (.if_icmp .ge 16, 3) := by decide +kernel
theorem dX10_see_8 : decode cX10_see 8 = .ok (.aload_n 0, 1) := by decide +kernel
theorem dX10_see_9 : decode cX10_see 9 = .ok (.getfield 28, 3) := by decide +kernel
theorem dX10_see_12 : decode cX10_see 12 = .ok (.iload_n 1, 1) := by decide +kernel
theorem dX10_see_13 : decode cX10_see 13 = .ok (.baload, 1) := by decide +kernel
theorem dX10_see_14 : decode cX10_see 14 = .ok (.sipush 255, 3) := by decide +kernel
theorem dX10_see_17 : decode cX10_see 17 = .ok (.iand, 1) := by decide +kernel
theorem dX10_see_18 : decode cX10_see 18 = .ok (.goto 4, 3) := by decide +kernel
theorem dX10_see_21 : decode cX10_see 21 = .ok (.iconst (-1), 1) := by decide +kernel
theorem dX10_see_22 : decode cX10_see 22 = .ok (.ireturn, 1) := by decide +kernel
theorem dX10_advance_0 : decode cX10_advance 0 = .ok (.aload_n 0, 1) := by decide +kernel
theorem dX10_advance_1 : decode cX10_advance 1 = .ok (.aload_n 0, 1) := by decide +kernel
theorem dX10_advance_2 : decode cX10_advance 2 = .ok (.getfield 116, 3) := by decide +kernel
theorem dX10_advance_5 : decode cX10_advance 5 = .ok (.invokevirtual 119, 3) := by decide +kernel
theorem dX10_advance_8 : decode cX10_advance 8 = .ok (.bipush 32, 2) := by decide +kernel
theorem dX10_advance_10 : decode cX10_advance 10 = .ok (.if_icmp .eq 16, 3) := by decide +kernel
theorem dX10_advance_13 : decode cX10_advance 13 = .ok (.aload_n 0, 1) := by decide +kernel
theorem dX10_advance_14 : decode cX10_advance 14 = .ok (.aload_n 0, 1) := by decide +kernel
theorem dX10_advance_15 : decode cX10_advance 15 = .ok (.getfield 116, 3) := by decide +kernel
theorem dX10_advance_18 : decode cX10_advance 18 = .ok (.invokevirtual 119, 3) := by decide +kernel
theorem dX10_advance_21 : decode cX10_advance 21 = .ok (.bipush 10, 2) := by decide +kernel
theorem dX10_advance_23 : decode cX10_advance 23 = .ok (.if_icmp .ne 16, 3) := by decide +kernel
theorem dX10_advance_26 : decode cX10_advance 26 = .ok (.aload_n 0, 1) := by decide +kernel
theorem dX10_advance_27 : decode cX10_advance 27 = .ok (.dup, 1) := by decide +kernel
theorem dX10_advance_28 : decode cX10_advance 28 = .ok (.getfield 116, 3) := by decide +kernel
theorem dX10_advance_31 : decode cX10_advance 31 = .ok (.iconst 1, 1) := by decide +kernel
theorem dX10_advance_32 : decode cX10_advance 32 = .ok (.iadd, 1) := by decide +kernel
theorem dX10_advance_33 : decode cX10_advance 33 = .ok (.putfield 116, 3) := by decide +kernel
theorem dX10_advance_36 : decode cX10_advance 36 = .ok (.goto (-36), 3) := by decide +kernel
theorem dX10_advance_39 : decode cX10_advance 39 = .ok (.aload_n 0, 1) := by decide +kernel
theorem dX10_advance_40 : decode cX10_advance 40 = .ok (.aload_n 0, 1) := by decide +kernel
theorem dX10_advance_41 : decode cX10_advance 41 = .ok (.getfield 116, 3) := by decide +kernel
theorem dX10_advance_44 : decode cX10_advance 44 = .ok (.putfield 123, 3) := by decide +kernel
theorem dX10_advance_47 : decode cX10_advance 47 = .ok (.aload_n 0, 1) := by decide +kernel
theorem dX10_advance_48 : decode cX10_advance 48 = .ok (.aload_n 0, 1) := by decide +kernel
theorem dX10_advance_49 : decode cX10_advance 49 = .ok (.getfield 116, 3) := by decide +kernel
theorem dX10_advance_52 : decode cX10_advance 52 = .ok (.invokevirtual 119, 3) := by decide +kernel
theorem dX10_advance_55 : decode cX10_advance 55 = .ok (.istore_n 1, 1) := by decide +kernel
theorem dX10_advance_56 : decode cX10_advance 56 = .ok (.iload_n 1, 1) := by decide +kernel
theorem dX10_advance_57 : decode cX10_advance 57 = .ok (.iconst (-1), 1) := by decide +kernel
theorem dX10_advance_58 : decode cX10_advance 58 = .ok (.if_icmp .ne 11, 3) := by decide +kernel
theorem dX10_advance_61 : decode cX10_advance 61 = .ok (.aload_n 0, 1) := by decide +kernel
theorem dX10_advance_62 : decode cX10_advance 62 = .ok (.iconst 0, 1) := by decide +kernel
theorem dX10_advance_63 : decode cX10_advance 63 = .ok (.putfield 126, 3) := by decide +kernel
theorem dX10_advance_66 : decode cX10_advance 66 = .ok (.goto 173, 3) := by decide +kernel
theorem dX10_advance_69 : decode cX10_advance 69 = .ok (.iload_n 1, 1) := by decide +kernel
theorem dX10_advance_70 : decode cX10_advance 70 = .ok (.i2l, 1) := by decide +kernel
theorem dX10_advance_71 : decode cX10_advance 71 = .ok (.ldc2_w 129, 3) := by decide +kernel
theorem dX10_advance_74 : decode cX10_advance 74 = .ok (.ldc2_w 131, 3) := by decide +kernel
theorem dX10_advance_77 : decode cX10_advance 77 = .ok (.invokestatic 98, 3) := by decide +kernel
theorem dX10_advance_80 : decode cX10_advance 80 = .ok (.ifCond .eq 45, 3) := by decide +kernel
theorem dX10_advance_83 : decode cX10_advance 83 = .ok (.aload_n 0, 1) := by decide +kernel
theorem dX10_advance_84 : decode cX10_advance 84 = .ok (.aload_n 0, 1) := by decide +kernel
theorem dX10_advance_85 : decode cX10_advance 85 = .ok (.getfield 116, 3) := by decide +kernel
theorem dX10_advance_88 : decode cX10_advance 88 = .ok (.invokevirtual 119, 3) := by decide +kernel
theorem dX10_advance_91 : decode cX10_advance 91 = .ok (.i2l, 1) := by decide +kernel
theorem dX10_advance_92 : decode cX10_advance 92 = .ok (.ldc2_w 129, 3) := by decide +kernel
theorem dX10_advance_95 : decode cX10_advance 95 = .ok (.ldc2_w 131, 3) := by decide +kernel
theorem dX10_advance_98 : decode cX10_advance 98 = .ok (.invokestatic 98, 3) := by decide +kernel
theorem dX10_advance_101 : decode cX10_advance 101 = .ok (.ifCond .eq 16, 3) := by decide +kernel
theorem dX10_advance_104 : decode cX10_advance 104 = .ok (.aload_n 0, 1) := by decide +kernel
theorem dX10_advance_105 : decode cX10_advance 105 = .ok (.dup, 1) := by decide +kernel
theorem dX10_advance_106 : decode cX10_advance 106 = .ok (.getfield 116, 3) := by decide +kernel
theorem dX10_advance_109 : decode cX10_advance 109 = .ok (.iconst 1, 1) := by decide +kernel
theorem dX10_advance_110 : decode cX10_advance 110 = .ok (.iadd, 1) := by decide +kernel
theorem dX10_advance_111 : decode cX10_advance 111 = .ok (.putfield 116, 3) := by decide +kernel
theorem dX10_advance_114 : decode cX10_advance 114 = .ok (.goto (-31), 3) := by decide +kernel
theorem dX10_advance_117 : decode cX10_advance 117 = .ok (.aload_n 0, 1) := by decide +kernel
theorem dX10_advance_118 : decode cX10_advance 118 = .ok (.iconst 1, 1) := by decide +kernel
theorem dX10_advance_119 : decode cX10_advance 119 = .ok (.putfield 126, 3) := by decide +kernel
theorem dX10_advance_122 : decode cX10_advance 122 = .ok (.goto 117, 3) := by decide +kernel
theorem dX10_advance_125 : decode cX10_advance 125 = .ok (.iload_n 1, 1) := by decide +kernel
theorem dX10_advance_126 : decode cX10_advance 126 = .ok (.i2l, 1) := by decide +kernel
theorem dX10_advance_127 : decode cX10_advance 127 = .ok (.ldc2_w 133, 3) := by decide +kernel
theorem dX10_advance_130 : decode cX10_advance 130 = .ok (.ldc2_w 135, 3) := by decide +kernel
theorem dX10_advance_133 : decode cX10_advance 133 = .ok (.invokestatic 98, 3) := by decide +kernel
theorem dX10_advance_136 : decode cX10_advance 136 = .ok (.ifCond .eq 78, 3) := by decide +kernel
theorem dX10_advance_139 : decode cX10_advance 139 = .ok (.aload_n 0, 1) := by decide +kernel
theorem dX10_advance_140 : decode cX10_advance 140 = .ok (.iconst 0, 1) := by decide +kernel
theorem dX10_advance_141 : decode cX10_advance 141 = .ok (.putfield 137, 3) := by decide +kernel
theorem dX10_advance_144 : decode cX10_advance 144 = .ok (.aload_n 0, 1) := by decide +kernel
theorem dX10_advance_145 : decode cX10_advance 145 = .ok (.aload_n 0, 1) := by decide +kernel
theorem dX10_advance_146 : decode cX10_advance 146 = .ok (.getfield 116, 3) := by decide +kernel
theorem dX10_advance_149 : decode cX10_advance 149 = .ok (.invokevirtual 119, 3) := by decide +kernel
theorem dX10_advance_152 : decode cX10_advance 152 = .ok (.i2l, 1) := by decide +kernel
theorem dX10_advance_153 : decode cX10_advance 153 = .ok (.ldc2_w 133, 3) := by decide +kernel
theorem dX10_advance_156 : decode cX10_advance 156 = .ok (.ldc2_w 135, 3) := by decide +kernel
theorem dX10_advance_159 : decode cX10_advance 159 = .ok (.invokestatic 98, 3) := by decide +kernel
theorem dX10_advance_162 : decode cX10_advance 162 = .ok (.ifCond .eq 44, 3) := by decide +kernel
theorem dX10_advance_165 : decode cX10_advance 165 = .ok (.aload_n 0, 1) := by decide +kernel
theorem dX10_advance_166 : decode cX10_advance 166 = .ok (.ldc 140, 2) := by decide +kernel
theorem dX10_advance_168 : decode cX10_advance 168 = .ok (.bipush 10, 2) := by decide +kernel
theorem dX10_advance_170 : decode cX10_advance 170 = .ok (.aload_n 0, 1) := by decide +kernel
theorem dX10_advance_171 : decode cX10_advance 171 = .ok (.getfield 137, 3) := by decide +kernel
theorem dX10_advance_174 : decode cX10_advance 174 = .ok (.imul, 1) := by decide +kernel
theorem dX10_advance_175 : decode cX10_advance 175 = .ok (.aload_n 0, 1) := by decide +kernel
theorem dX10_advance_176 : decode cX10_advance 176 = .ok (.aload_n 0, 1) := by decide +kernel
theorem dX10_advance_177 : decode cX10_advance 177 = .ok (.getfield 116, 3) := by decide +kernel
theorem dX10_advance_180 : decode cX10_advance 180 = .ok (.invokevirtual 119, 3) := by decide +kernel
theorem dX10_advance_183 : decode cX10_advance 183 = .ok (.iadd, 1) := by decide +kernel
theorem dX10_advance_184 : decode cX10_advance 184 = .ok (.bipush 48, 2) := by decide +kernel
theorem dX10_advance_186 : decode cX10_advance 186 = .ok (.isub, 1) := by decide +kernel
theorem dX10_advance_187 : decode cX10_advance 187 = .ok (.invokestatic 141, 3) := by decide +kernel
theorem dX10_advance_190 : decode cX10_advance 190 = .ok (.putfield 137, 3) := by decide +kernel
theorem dX10_advance_193 : decode cX10_advance 193 = .ok (.aload_n 0, 1) := by decide +kernel
theorem dX10_advance_194 : decode cX10_advance 194 = .ok (.dup, 1) := by decide +kernel
theorem dX10_advance_195 : decode cX10_advance 195 = .ok (.getfield 116, 3) := by decide +kernel
theorem dX10_advance_198 : decode cX10_advance 198 = .ok (.iconst 1, 1) := by decide +kernel
theorem dX10_advance_199 : decode cX10_advance 199 = .ok (.iadd, 1) := by decide +kernel
theorem dX10_advance_200 : decode cX10_advance 200 = .ok (.putfield 116, 3) := by decide +kernel
theorem dX10_advance_203 : decode cX10_advance 203 = .ok (.goto (-59), 3) := by decide +kernel
theorem dX10_advance_206 : decode cX10_advance 206 = .ok (.aload_n 0, 1) := by decide +kernel
theorem dX10_advance_207 : decode cX10_advance 207 = .ok (.iconst 2, 1) := by decide +kernel
theorem dX10_advance_208 : decode cX10_advance 208 = .ok (.putfield 126, 3) := by decide +kernel
theorem dX10_advance_211 : decode cX10_advance 211 = .ok (.goto 28, 3) := by decide +kernel
theorem dX10_advance_214 : decode cX10_advance 214 = .ok (.aload_n 0, 1) := by decide +kernel
theorem dX10_advance_215 : decode cX10_advance 215 = .ok (.iload_n 1, 1) := by decide +kernel
theorem dX10_advance_216 : decode cX10_advance 216 = .ok (.bipush 59, 2) := by decide +kernel
theorem dX10_advance_218 : decode cX10_advance 218 = .ok (.if_icmp .ne 7, 3) := by decide +kernel
theorem dX10_advance_221 : decode cX10_advance 221 = .ok (.iconst 3, 1) := by decide +kernel
theorem dX10_advance_222 : decode cX10_advance 222 = .ok (.goto 4, 3) := by decide +kernel
theorem dX10_advance_225 : decode cX10_advance 225 = .ok (.iconst 4, 1) := by decide +kernel
theorem dX10_advance_226 : decode cX10_advance 226 = .ok (.putfield 126, 3) := by decide +kernel
theorem dX10_advance_229 : decode cX10_advance 229 = .ok (.aload_n 0, 1) := by decide +kernel
theorem dX10_advance_230 : decode cX10_advance 230 = .ok (.dup, 1) := by decide +kernel
theorem dX10_advance_231 : decode cX10_advance 231 = .ok (.getfield 116, 3) := by decide +kernel
theorem dX10_advance_234 : decode cX10_advance 234 = .ok (.iconst 1, 1) := by decide +kernel
theorem dX10_advance_235 : decode cX10_advance 235 = .ok (.iadd, 1) := by decide +kernel
theorem dX10_advance_236 : decode cX10_advance 236 = .ok (.putfield 116, 3) := by decide +kernel
theorem dX10_advance_239 : decode cX10_advance 239 = .ok (.return_, 1) := by decide +kernel
theorem dX10_good_0 : decode cX10_good 0 = .ok (.aload_n 0, 1) := by decide +kernel
theorem dX10_good_1 : decode cX10_good 1 = .ok (.getfield 147, 3) := by decide +kernel
theorem dX10_good_4 : decode cX10_good 4 = .ok (.ifCond .ne 7, 3) := by decide +kernel
theorem dX10_good_7 : decode cX10_good 7 = .ok (.iconst 1, 1) := by decide +kernel
theorem dX10_good_8 : decode cX10_good 8 = .ok (.goto 4, 3) := by decide +kernel
theorem dX10_good_11 : decode cX10_good 11 = .ok (.iconst 0, 1) := by decide +kernel
theorem dX10_good_12 : decode cX10_good 12 = .ok (.ireturn, 1) := by decide +kernel
theorem dX10_errs_0 : decode cX10_errs 0 = .ok (.aload_n 0, 1) := by decide +kernel
theorem dX10_errs_1 : decode cX10_errs 1 = .ok (.invokevirtual 150, 3) := by decide +kernel
theorem dX10_errs_4 : decode cX10_errs 4 = .ok (.ifCond .ne 4, 3) := by decide +kernel
theorem dX10_errs_7 : decode cX10_errs 7 = .ok (.return_, 1) := by decide +kernel
theorem dX10_errs_8 : decode cX10_errs 8 = .ok (.aload_n 0, 1) := by decide +kernel
theorem dX10_errs_9 : decode cX10_errs 9 = .ok (.iload_n 1, 1) := by decide +kernel
theorem dX10_errs_10 : decode cX10_errs 10 = .ok (.putfield 147, 3) := by decide +kernel
theorem dX10_errs_13 : decode cX10_errs 13 = .ok (.aload_n 0, 1) := by decide +kernel
theorem dX10_errs_14 : decode cX10_errs 14 = .ok (.aload_n 0, 1) := by decide +kernel
theorem dX10_errs_15 : decode cX10_errs 15 = .ok (.getfield 123, 3) := by decide +kernel
theorem dX10_errs_18 : decode cX10_errs 18 = .ok (.putfield 35, 3) := by decide +kernel
theorem dX10_errs_21 : decode cX10_errs 21 = .ok (.return_, 1) := by decide +kernel
theorem dX10_is_0 : decode cX10_is 0 = .ok (.aload_n 0, 1) := by decide +kernel
theorem dX10_is_1 : decode cX10_is 1 = .ok (.invokevirtual 150, 3) := by decide +kernel
theorem dX10_is_4 : decode cX10_is 4 = .ok (.ifCond .eq 31, 3) := by decide +kernel
theorem dX10_is_7 : decode cX10_is 7 = .ok (.aload_n 0, 1) := by decide +kernel
theorem dX10_is_8 : decode cX10_is 8 = .ok (.getfield 126, 3) := by decide +kernel
theorem dX10_is_11 : decode cX10_is 11 = .ok (.iconst 1, 1) := by decide +kernel
theorem dX10_is_12 : decode cX10_is 12 = .ok (.if_icmp .ne 23, 3) := by decide +kernel
theorem dX10_is_15 : decode cX10_is 15 = .ok (.aload_n 0, 1) := by decide +kernel
theorem dX10_is_16 : decode cX10_is 16 = .ok (.getfield 116, 3) := by decide +kernel
theorem dX10_is_19 : decode cX10_is 19 = .ok (.aload_n 0, 1) := by decide +kernel
theorem dX10_is_20 : decode cX10_is 20 = .ok (.getfield 123, 3) := by decide +kernel
theorem dX10_is_23 : decode cX10_is 23 = .ok (.isub, 1) := by decide +kernel
theorem dX10_is_24 : decode cX10_is 24 = .ok (.aload_n 1, 1) := by decide +kernel
theorem dX10_is_25 : decode cX10_is 25 = .ok (.invokevirtual 154, 3) := by decide +kernel
theorem dX10_is_28 : decode cX10_is 28 = .ok (.if_icmp .ne 7, 3) := by decide +kernel
theorem dX10_is_31 : decode cX10_is 31 = .ok (.iconst 1, 1) := by decide +kernel
theorem dX10_is_32 : decode cX10_is 32 = .ok (.goto 4, 3) := by decide +kernel
theorem dX10_is_35 : decode cX10_is 35 = .ok (.iconst 0, 1) := by decide +kernel
theorem dX10_is_36 : decode cX10_is 36 = .ok (.istore_n 2, 1) := by decide +kernel
theorem dX10_is_37 : decode cX10_is 37 = .ok (.iconst 0, 1) := by decide +kernel
theorem dX10_is_38 : decode cX10_is 38 = .ok (.istore_n 3, 1) := by decide +kernel
theorem dX10_is_39 : decode cX10_is 39 = .ok (.iload_n 3, 1) := by decide +kernel
theorem dX10_is_40 : decode cX10_is 40 = .ok (.aload_n 1, 1) := by decide +kernel
theorem dX10_is_41 : decode cX10_is 41 = .ok (.invokevirtual 154, 3) := by decide +kernel
theorem dX10_is_44 : decode cX10_is 44 = .ok (.if_icmp .ge 38, 3) := by decide +kernel
theorem dX10_is_47 : decode cX10_is 47 = .ok (.iload_n 2, 1) := by decide +kernel
theorem dX10_is_48 : decode cX10_is 48 = .ok (.ifCond .eq 34, 3) := by decide +kernel
theorem dX10_is_51 : decode cX10_is 51 = .ok (.aload_n 0, 1) := by decide +kernel
theorem dX10_is_52 : decode cX10_is 52 = .ok (.getfield 28, 3) := by decide +kernel
theorem dX10_is_55 : decode cX10_is 55 = .ok (.aload_n 0, 1) := by decide +kernel
theorem dX10_is_56 : decode cX10_is 56 = .ok (.getfield 123, 3) := by decide +kernel
theorem dX10_is_59 : decode cX10_is 59 = .ok (.iload_n 3, 1) := by decide +kernel
theorem dX10_is_60 : decode cX10_is 60 = .ok (.iadd, 1) := by decide +kernel
theorem dX10_is_61 : decode cX10_is 61 = .ok (.baload, 1) := by decide +kernel
theorem dX10_is_62 : decode cX10_is 62 = .ok (.aload_n 1, 1) := by decide +kernel
theorem dX10_is_63 : decode cX10_is 63 = .ok (.iload_n 3, 1) := by decide +kernel
theorem dX10_is_64 : decode cX10_is 64 = .ok (.invokevirtual 160, 3) := by decide +kernel
theorem dX10_is_67 : decode cX10_is 67 = .ok (.if_icmp .ne 7, 3) := by decide +kernel
theorem dX10_is_70 : decode cX10_is 70 = .ok (.iconst 1, 1) := by decide +kernel
theorem dX10_is_71 : decode cX10_is 71 = .ok (.goto 4, 3) := by decide +kernel
theorem dX10_is_74 : decode cX10_is 74 = .ok (.iconst 0, 1) := by decide +kernel
theorem dX10_is_75 : decode cX10_is 75 = .ok (.istore_n 2, 1) := by decide +kernel
theorem dX10_is_76 : decode cX10_is 76 = .ok (.iinc 3 1, 3) := by decide +kernel
theorem dX10_is_79 : decode cX10_is 79 = .ok (.goto (-40), 3) := by decide +kernel
theorem dX10_is_82 : decode cX10_is 82 = .ok (.iload_n 2, 1) := by decide +kernel
theorem dX10_is_83 : decode cX10_is 83 = .ok (.ireturn, 1) := by decide +kernel
theorem dX10_takes_0 : decode cX10_takes 0 = .ok (.aload_n 0, 1) := by decide +kernel
theorem dX10_takes_1 : decode cX10_takes 1 = .ok (.aload_n 1, 1) := by decide +kernel
theorem dX10_takes_2 : decode cX10_takes 2 = .ok (.invokevirtual 164, 3) := by decide +kernel
theorem dX10_takes_5 : decode cX10_takes 5 = .ok (.istore_n 2, 1) := by decide +kernel
theorem dX10_takes_6 : decode cX10_takes 6 = .ok (.iload_n 2, 1) := by decide +kernel
theorem dX10_takes_7 : decode cX10_takes 7 = .ok (.ifCond .eq 7, 3) := by decide +kernel
theorem dX10_takes_10 : decode cX10_takes 10 = .ok (.aload_n 0, 1) := by decide +kernel
theorem dX10_takes_11 : decode cX10_takes 11 = .ok (.invokevirtual 168, 3) := by decide +kernel
theorem dX10_takes_14 : decode cX10_takes 14 = .ok (.iload_n 2, 1) := by decide +kernel
theorem dX10_takes_15 : decode cX10_takes 15 = .ok (.ireturn, 1) := by decide +kernel
theorem dX10_needs_0 : decode cX10_needs 0 = .ok (.aload_n 0, 1) := by decide +kernel
theorem dX10_needs_1 : decode cX10_needs 1 = .ok (.aload_n 1, 1) := by decide +kernel
theorem dX10_needs_2 : decode cX10_needs 2 = .ok (.invokevirtual 171, 3) := by decide +kernel
theorem dX10_needs_5 : decode cX10_needs 5 = .ok (.ifCond .ne 8, 3) := by decide +kernel
theorem dX10_needs_8 : decode cX10_needs 8 = .ok (.aload_n 0, 1) := by decide +kernel
theorem dX10_needs_9 : decode cX10_needs 9 = .ok (.iconst 1, 1) := by decide +kernel
theorem dX10_needs_10 : decode cX10_needs 10 = .ok (.invokevirtual 174, 3) := by decide +kernel
theorem dX10_needs_13 : decode cX10_needs 13 = .ok (.return_, 1) := by decide +kernel
theorem dX10_number_0 : decode cX10_number 0 = .ok (.aload_n 0, 1) := by decide +kernel
theorem dX10_number_1 : decode cX10_number 1 = .ok (.invokevirtual 150, 3) := by decide +kernel
theorem dX10_number_4 : decode cX10_number 4 = .ok (.ifCond .eq 16, 3) := by decide +kernel
theorem dX10_number_7 : decode cX10_number 7 = .ok (.aload_n 0, 1) := by decide +kernel
theorem dX10_number_8 : decode cX10_number 8 = .ok (.getfield 126, 3) := by decide +kernel
theorem dX10_number_11 : decode cX10_number 11 = .ok (.iconst 2, 1) := by decide +kernel
theorem dX10_number_12 : decode cX10_number 12 = .ok (.if_icmp .eq 8, 3) := by decide +kernel
theorem dX10_number_15 : decode cX10_number 15 = .ok (.aload_n 0, 1) := by decide +kernel
theorem dX10_number_16 : decode cX10_number 16 = .ok (.iconst 1, 1) := by decide +kernel
theorem dX10_number_17 : decode cX10_number 17 = .ok (.invokevirtual 174, 3) := by decide +kernel
theorem dX10_number_20 : decode cX10_number 20 = .ok (.aload_n 0, 1) := by decide +kernel
theorem dX10_number_21 : decode cX10_number 21 = .ok (.invokevirtual 150, 3) := by decide +kernel
theorem dX10_number_24 : decode cX10_number 24 = .ok (.ifCond .eq 23, 3) := by decide +kernel
theorem dX10_number_27 : decode cX10_number 27 = .ok (.aload_n 0, 1) := by decide +kernel
theorem dX10_number_28 : decode cX10_number 28 = .ok (.getfield 137, 3) := by decide +kernel
theorem dX10_number_31 : decode cX10_number 31 = .ok (.i2l, 1) := by decide +kernel
theorem dX10_number_32 : decode cX10_number 32 = .ok (.iload_n 1, 1) := by decide +kernel
theorem dX10_number_33 : decode cX10_number 33 = .ok (.i2l, 1) := by decide +kernel
theorem dX10_number_34 : decode cX10_number 34 = .ok (.iload_n 2, 1) := by decide +kernel
theorem dX10_number_35 : decode cX10_number 35 = .ok (.i2l, 1) := by decide +kernel
