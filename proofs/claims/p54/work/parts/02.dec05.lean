theorem dX9_arePair_24 : decode cX9_arePair 24 = .ok (.goto 4, 3) := by decide +kernel
theorem dX9_arePair_27 : decode cX9_arePair 27 = .ok (.iconst 0, 1) := by decide +kernel
theorem dX9_arePair_28 : decode cX9_arePair 28 = .ok (.ireturn, 1) := by decide +kernel
theorem dX9_areDays_0 : decode cX9_areDays 0 = .ok (.iload_n 0, 1) := by decide +kernel
theorem dX9_areDays_1 : decode cX9_areDays 1 = .ok (.iconst 1, 1) := by decide +kernel
theorem dX9_areDays_2 : decode cX9_areDays 2 = .ok (.if_icmp .lt 13, 3) := by decide +kernel
theorem dX9_areDays_5 : decode cX9_areDays 5 = .ok (.iload_n 0, 1) := by decide +kernel
theorem dX9_areDays_6 : decode cX9_areDays 6 = .ok (.bipush 30, 2) := by decide +kernel
theorem dX9_areDays_8 : decode cX9_areDays 8 = .ok (.if_icmp .gt 7, 3) := by decide +kernel
theorem dX9_areDays_11 : decode cX9_areDays 11 = .ok (.iconst 1, 1) := by decide +kernel
theorem dX9_areDays_12 : decode cX9_areDays 12 = .ok (.goto 4, 3) := by decide +kernel
theorem dX9_areDays_15 : decode cX9_areDays 15 = .ok (.iconst 0, 1) := by decide +kernel
theorem dX9_areDays_16 : decode cX9_areDays 16 = .ok (.ireturn, 1) := by decide +kernel
theorem dX9_canPass_0 : decode cX9_canPass 0 = .ok (.iload_n 1, 1) := by decide +kernel
theorem dX9_canPass_1 : decode cX9_canPass 1 = .ok (.invokestatic 104, 3) := by decide +kernel
theorem dX9_canPass_4 : decode cX9_canPass 4 = .ok (.ifCond .eq 17, 3) := by decide +kernel
theorem dX9_canPass_7 : decode cX9_canPass 7 = .ok (.aload_n 0, 1) := by decide +kernel
theorem dX9_canPass_8 : decode cX9_canPass 8 = .ok (.getfield 19, 3) := by decide +kernel
theorem dX9_canPass_11 : decode cX9_canPass 11 = .ok (.getfield 97, 3) := by decide +kernel
theorem dX9_canPass_14 : decode cX9_canPass 14 = .ok (.ifCond .le 7, 3) := by decide +kernel
theorem dX9_canPass_17 : decode cX9_canPass 17 = .ok (.iconst 1, 1) := by decide +kernel
theorem dX9_canPass_18 : decode cX9_canPass 18 = .ok (.goto 4, 3) := by decide +kernel
theorem dX9_canPass_21 : decode cX9_canPass 21 = .ok (.iconst 0, 1) := by decide +kernel
theorem dX9_canPass_22 : decode cX9_canPass 22 = .ok (.ireturn, 1) := by decide +kernel
theorem dX9_startThought_0 : decode cX9_startThought 0 = .ok (.aload_n 0, 1) := by decide +kernel
theorem dX9_startThought_1 : decode cX9_startThought 1 = .ok (.getfield 23, 3) := by decide +kernel
theorem dX9_startThought_4 : decode cX9_startThought 4 = .ok (.iconst 0, 1) := by decide +kernel
theorem dX9_startThought_5 : decode cX9_startThought 5 = .ok (.aaload, 1) := by decide +kernel
theorem dX9_startThought_6 : decode cX9_startThought 6 = .ok (.aload_n 0, 1) := by decide +kernel
theorem dX9_startThought_7 : decode cX9_startThought 7 = .ok (.getfield 19, 3) := by decide +kernel
theorem dX9_startThought_10 : decode cX9_startThought 10 = .ok (.invokevirtual 84, 3) := by decide +kernel
theorem dX9_startThought_13 : decode cX9_startThought 13 = .ok (.aload_n 0, 1) := by decide +kernel
theorem dX9_startThought_14 : decode cX9_startThought 14 = .ok (.getfield 23, 3) := by decide +kernel
theorem dX9_startThought_17 : decode cX9_startThought 17 = .ok (.iconst 0, 1) := by decide +kernel
theorem dX9_startThought_18 : decode cX9_startThought 18 = .ok (.aaload, 1) := by decide +kernel
theorem dX9_startThought_19 : decode cX9_startThought 19 = .ok (.areturn, 1) := by decide +kernel
theorem dX9_isWay_0 : decode cX9_isWay 0 = .ok (.lload_n 0, 1) := by decide +kernel
theorem dX9_isWay_1 : decode cX9_isWay 1 = .ok (.lconst 0, 1) := by decide +kernel
theorem dX9_isWay_2 : decode cX9_isWay 2 = .ok (.lcmp, 1) := by decide +kernel
theorem dX9_isWay_3 : decode cX9_isWay 3 = .ok (.ifCond .lt 15, 3) := by decide +kernel
theorem dX9_isWay_6 : decode cX9_isWay 6 = .ok (.lload_n 0, 1) := by decide +kernel
theorem dX9_isWay_7 : decode cX9_isWay 7 = .ok (.ldc2_w 108, 3) := by decide +kernel
theorem dX9_isWay_10 : decode cX9_isWay 10 = .ok (.lcmp, 1) := by decide +kernel
theorem dX9_isWay_11 : decode cX9_isWay 11 = .ok (.ifCond .ge 7, 3) := by decide +kernel
theorem dX9_isWay_14 : decode cX9_isWay 14 = .ok (.iconst 1, 1) := by decide +kernel
theorem dX9_isWay_15 : decode cX9_isWay 15 = .ok (.goto 4, 3) := by decide +kernel
theorem dX9_isWay_18 : decode cX9_isWay 18 = .ok (.iconst 0, 1) := by decide +kernel
theorem dX9_isWay_19 : decode cX9_isWay 19 = .ok (.ireturn, 1) := by decide +kernel
theorem dX9_person_0 : decode cX9_person 0 = .ok (.aload_n 0, 1) := by decide +kernel
theorem dX9_person_1 : decode cX9_person 1 = .ok (.iload_n 1, 1) := by decide +kernel
theorem dX9_person_2 : decode cX9_person 2 = .ok (.i2l, 1) := by decide +kernel
theorem dX9_person_3 : decode cX9_person 3 = .ok (.invokevirtual 100, 3) := by decide +kernel
theorem dX9_person_6 : decode cX9_person 6 = .ok (.ifCond .ne 6, 3) := by decide +kernel
theorem dX9_person_9 : decode cX9_person 9 = .ok (.bipush (-2), 2) := by decide +kernel
theorem dX9_person_11 : decode cX9_person 11 = .ok (.ireturn, 1) := by decide +kernel
theorem dX9_person_12 : decode cX9_person 12 = .ok (.aload_n 0, 1) := by decide +kernel
theorem dX9_person_13 : decode cX9_person 13 = .ok (.getfield 19, 3) := by decide +kernel
theorem dX9_person_16 : decode cX9_person 16 = .ok (.getfield 110, 3) := by decide +kernel
theorem dX9_person_19 : decode cX9_person 19 = .ok (.iload_n 1, 1) := by decide +kernel
theorem dX9_person_20 : decode cX9_person 20 = .ok (.aaload, 1) := by decide +kernel
theorem dX9_person_21 : decode cX9_person 21 = .ok (.astore_n 3, 1) := by decide +kernel
theorem dX9_person_22 : decode cX9_person 22 = .ok (.iload_n 2, 1) := by decide +kernel
theorem dX9_person_23 : decode cX9_person 23 = .ok (.tableswitch 49 0 3 #[29, 34, 39, 44], 29) := by decide +kernel
theorem dX9_person_52 : decode cX9_person 52 = .ok (.aload_n 3, 1) := by decide +kernel
theorem dX9_person_53 : decode cX9_person 53 = .ok (.getfield 114, 3) := by decide +kernel
theorem dX9_person_56 : decode cX9_person 56 = .ok (.ireturn, 1) := by decide +kernel
theorem dX9_person_57 : decode cX9_person 57 = .ok (.aload_n 3, 1) := by decide +kernel
theorem dX9_person_58 : decode cX9_person 58 = .ok (.getfield 119, 3) := by decide +kernel
theorem dX9_person_61 : decode cX9_person 61 = .ok (.ireturn, 1) := by decide +kernel
theorem dX9_person_62 : decode cX9_person 62 = .ok (.aload_n 3, 1) := by decide +kernel
theorem dX9_person_63 : decode cX9_person 63 = .ok (.getfield 122, 3) := by decide +kernel
theorem dX9_person_66 : decode cX9_person 66 = .ok (.ireturn, 1) := by decide +kernel
theorem dX9_person_67 : decode cX9_person 67 = .ok (.aload_n 3, 1) := by decide +kernel
theorem dX9_person_68 : decode cX9_person 68 = .ok (.getfield 125, 3) := by decide +kernel
theorem dX9_person_71 : decode cX9_person 71 = .ok (.ireturn, 1) := by decide +kernel
theorem dX9_person_72 : decode cX9_person 72 = .ok (.bipush (-2), 2) := by decide +kernel
theorem dX9_person_74 : decode cX9_person 74 = .ok (.ireturn, 1) := by decide +kernel
theorem dX9_have_0 : decode cX9_have 0 = .ok (.aload_n 0, 1) := by decide +kernel
theorem dX9_have_1 : decode cX9_have 1 = .ok (.iload_n 1, 1) := by decide +kernel
theorem dX9_have_2 : decode cX9_have 2 = .ok (.i2l, 1) := by decide +kernel
theorem dX9_have_3 : decode cX9_have 3 = .ok (.invokevirtual 100, 3) := by decide +kernel
theorem dX9_have_6 : decode cX9_have 6 = .ok (.ifCond .eq 18, 3) := by decide +kernel
theorem dX9_have_9 : decode cX9_have 9 = .ok (.iload_n 2, 1) := by decide +kernel
theorem dX9_have_10 : decode cX9_have 10 = .ok (.ifCond .lt 14, 3) := by decide +kernel
theorem dX9_have_13 : decode cX9_have 13 = .ok (.iload_n 2, 1) := by decide +kernel
theorem dX9_have_14 : decode cX9_have 14 = .ok (.aload_n 0, 1) := by decide +kernel
theorem dX9_have_15 : decode cX9_have 15 = .ok (.getfield 19, 3) := by decide +kernel
theorem dX9_have_18 : decode cX9_have 18 = .ok (.getfield 128, 3) := by decide +kernel
theorem dX9_have_21 : decode cX9_have 21 = .ok (.if_icmp .le 6, 3) := by decide +kernel
theorem dX9_have_24 : decode cX9_have 24 = .ok (.bipush (-2), 2) := by decide +kernel
theorem dX9_have_26 : decode cX9_have 26 = .ok (.ireturn, 1) := by decide +kernel
theorem dX9_have_27 : decode cX9_have 27 = .ok (.aload_n 0, 1) := by decide +kernel
theorem dX9_have_28 : decode cX9_have 28 = .ok (.getfield 19, 3) := by decide +kernel
theorem dX9_have_31 : decode cX9_have 31 = .ok (.getfield 110, 3) := by decide +kernel
theorem dX9_have_34 : decode cX9_have 34 = .ok (.iload_n 1, 1) := by decide +kernel
theorem dX9_have_35 : decode cX9_have 35 = .ok (.aaload, 1) := by decide +kernel
theorem dX9_have_36 : decode cX9_have 36 = .ok (.getfield 114, 3) := by decide +kernel
theorem dX9_have_39 : decode cX9_have 39 = .ok (.istore_n 3, 1) := by decide +kernel
theorem dX9_have_40 : decode cX9_have 40 = .ok (.aload_n 0, 1) := by decide +kernel
theorem dX9_have_41 : decode cX9_have 41 = .ok (.getfield 19, 3) := by decide +kernel
theorem dX9_have_44 : decode cX9_have 44 = .ok (.getfield 110, 3) := by decide +kernel
theorem dX9_have_47 : decode cX9_have 47 = .ok (.iload_n 1, 1) := by decide +kernel
theorem dX9_have_48 : decode cX9_have 48 = .ok (.aaload, 1) := by decide +kernel
theorem dX9_have_49 : decode cX9_have 49 = .ok (.iload_n 2, 1) := by decide +kernel
theorem dX9_have_50 : decode cX9_have 50 = .ok (.aload_n 0, 1) := by decide +kernel
theorem dX9_have_51 : decode cX9_have 51 = .ok (.getfield 19, 3) := by decide +kernel
theorem dX9_have_54 : decode cX9_have 54 = .ok (.getfield 128, 3) := by decide +kernel
theorem dX9_have_57 : decode cX9_have 57 = .ok (.invokevirtual 131, 3) := by decide +kernel
theorem dX9_have_60 : decode cX9_have 60 = .ok (.iload_n 3, 1) := by decide +kernel
theorem dX9_have_61 : decode cX9_have 61 = .ok (.ireturn, 1) := by decide +kernel
theorem dX9_hide_0 : decode cX9_hide 0 = .ok (.aload_n 0, 1) := by decide +kernel
theorem dX9_hide_1 : decode cX9_hide 1 = .ok (.iload_n 1, 1) := by decide +kernel
theorem dX9_hide_2 : decode cX9_hide 2 = .ok (.i2l, 1) := by decide +kernel
theorem dX9_hide_3 : decode cX9_hide 3 = .ok (.invokevirtual 100, 3) := by decide +kernel
theorem dX9_hide_6 : decode cX9_hide 6 = .ok (.ifCond .eq 13, 3) := by decide +kernel
theorem dX9_hide_9 : decode cX9_hide 9 = .ok (.iload_n 2, 1) := by decide +kernel
theorem dX9_hide_10 : decode cX9_hide 10 = .ok (.ifCond .lt 9, 3) := by decide +kernel
theorem dX9_hide_13 : decode cX9_hide 13 = .ok (.iload_n 2, 1) := by decide +kernel
theorem dX9_hide_14 : decode cX9_hide 14 = .ok (.bipush 30, 2) := by decide +kernel
theorem dX9_hide_16 : decode cX9_hide 16 = .ok (.if_icmp .le 6, 3) := by decide +kernel
theorem dX9_hide_19 : decode cX9_hide 19 = .ok (.bipush (-2), 2) := by decide +kernel
theorem dX9_hide_21 : decode cX9_hide 21 = .ok (.ireturn, 1) := by decide +kernel
theorem dX9_hide_22 : decode cX9_hide 22 = .ok (.aload_n 0, 1) := by decide +kernel
theorem dX9_hide_23 : decode cX9_hide 23 = .ok (.getfield 19, 3) := by decide +kernel
theorem dX9_hide_26 : decode cX9_hide 26 = .ok (.getfield 110, 3) := by decide +kernel
theorem dX9_hide_29 : decode cX9_hide 29 = .ok (.iload_n 1, 1) := by decide +kernel
theorem dX9_hide_30 : decode cX9_hide 30 = .ok (.aaload, 1) := by decide +kernel
theorem dX9_hide_31 : decode cX9_hide 31 = .ok (.astore_n 3, 1) := by decide +kernel
theorem dX9_hide_32 : decode cX9_hide 32 = .ok (.aload_n 3, 1) := by decide +kernel
theorem dX9_hide_33 : decode cX9_hide 33 = .ok (.iload_n 2, 1) := by decide +kernel
theorem dX9_hide_34 : decode cX9_hide 34 = .ok (.aload_n 3, 1) := by decide +kernel
theorem dX9_hide_35 : decode cX9_hide 35 = .ok (.getfield 114, 3) := by decide +kernel
theorem dX9_hide_38 : decode cX9_hide 38 = .ok (.invokestatic 135, 3) := by decide +kernel
theorem dX9_hide_41 : decode cX9_hide 41 = .ok (.putfield 119, 3) := by decide +kernel
theorem dX9_hide_44 : decode cX9_hide 44 = .ok (.aload_n 3, 1) := by decide +kernel
theorem dX9_hide_45 : decode cX9_hide 45 = .ok (.getfield 119, 3) := by decide +kernel
theorem dX9_hide_48 : decode cX9_hide 48 = .ok (.ireturn, 1) := by decide +kernel
theorem dX9_seen_0 : decode cX9_seen 0 = .ok (.aload_n 0, 1) := by decide +kernel
theorem dX9_seen_1 : decode cX9_seen 1 = .ok (.iload_n 1, 1) := by decide +kernel
theorem dX9_seen_2 : decode cX9_seen 2 = .ok (.iload_n 2, 1) := by decide +kernel
theorem dX9_seen_3 : decode cX9_seen 3 = .ok (.invokevirtual 141, 3) := by decide +kernel
theorem dX9_seen_6 : decode cX9_seen 6 = .ok (.ifCond .eq 15, 3) := by decide +kernel
theorem dX9_seen_9 : decode cX9_seen 9 = .ok (.aload_n 0, 1) := by decide +kernel
theorem dX9_seen_10 : decode cX9_seen 10 = .ok (.getfield 19, 3) := by decide +kernel
theorem dX9_seen_13 : decode cX9_seen 13 = .ok (.iload_n 1, 1) := by decide +kernel
theorem dX9_seen_14 : decode cX9_seen 14 = .ok (.iload_n 2, 1) := by decide +kernel
theorem dX9_seen_15 : decode cX9_seen 15 = .ok (.invokevirtual 145, 3) := by decide +kernel
theorem dX9_seen_18 : decode cX9_seen 18 = .ok (.goto 5, 3) := by decide +kernel
theorem dX9_seen_21 : decode cX9_seen 21 = .ok (.bipush (-2), 2) := by decide +kernel
theorem dX9_seen_23 : decode cX9_seen 23 = .ok (.ireturn, 1) := by decide +kernel
theorem dX9_sight_0 : decode cX9_sight 0 = .ok (.aload_n 0, 1) := by decide +kernel
theorem dX9_sight_1 : decode cX9_sight 1 = .ok (.iload_n 1, 1) := by decide +kernel
theorem dX9_sight_2 : decode cX9_sight 2 = .ok (.iload_n 2, 1) := by decide +kernel
theorem dX9_sight_3 : decode cX9_sight 3 = .ok (.invokevirtual 141, 3) := by decide +kernel
theorem dX9_sight_6 : decode cX9_sight 6 = .ok (.ifCond .eq 14, 3) := by decide +kernel
theorem dX9_sight_9 : decode cX9_sight 9 = .ok (.iload_n 3, 1) := by decide +kernel
theorem dX9_sight_10 : decode cX9_sight 10 = .ok (.iconst 1, 1) := by decide +kernel
theorem dX9_sight_11 : decode cX9_sight 11 = .ok (.if_icmp .lt 9, 3) := by decide +kernel
theorem dX9_sight_14 : decode cX9_sight 14 = .ok (.iload_n 3, 1) := by decide +kernel
theorem dX9_sight_15 : decode cX9_sight 15 = .ok (.bipush 30, 2) := by decide +kernel
theorem dX9_sight_17 : decode cX9_sight 17 = .ok (.if_icmp .le 6, 3) := by decide +kernel
theorem dX9_sight_20 : decode cX9_sight 20 = .ok (.bipush (-2), 2) := by decide +kernel
theorem dX9_sight_22 : decode cX9_sight 22 = .ok (.ireturn, 1) := by decide +kernel
theorem dX9_sight_23 : decode cX9_sight 23 = .ok (.iload_n 1, 1) := by decide +kernel
theorem dX9_sight_24 : decode cX9_sight 24 = .ok (.bipush 8, 2) := by decide +kernel
theorem dX9_sight_26 : decode cX9_sight 26 = .ok (.imul, 1) := by decide +kernel
theorem dX9_sight_27 : decode cX9_sight 27 = .ok (.iload_n 2, 1) := by decide +kernel
theorem dX9_sight_28 : decode cX9_sight 28 = .ok (.iadd, 1) := by decide +kernel
theorem dX9_sight_29 : decode cX9_sight 29 = .ok (.istore 4, 2) := by decide +kernel
theorem dX9_sight_31 : decode cX9_sight 31 = .ok (.aload_n 0, 1) := by decide +kernel
theorem dX9_sight_32 : decode cX9_sight 32 = .ok (.getfield 19, 3) := by decide +kernel
theorem dX9_sight_35 : decode cX9_sight 35 = .ok (.getfield 148, 3) := by decide +kernel
theorem dX9_sight_38 : decode cX9_sight 38 = .ok (.iload 4, 2) := by decide +kernel
theorem dX9_sight_40 : decode cX9_sight 40 = .ok (.iaload, 1) := by decide +kernel
theorem dX9_sight_41 : decode cX9_sight 41 = .ok (.istore 5, 2) := by decide +kernel
theorem dX9_sight_43 : decode cX9_sight 43 = .ok (.aload_n 0, 1) := by decide +kernel
theorem dX9_sight_44 : decode cX9_sight 44 = .ok (.getfield 19, 3) := by decide +kernel
theorem dX9_sight_47 : decode cX9_sight 47 = .ok (.getfield 148, 3) := by decide +kernel
theorem dX9_sight_50 : decode cX9_sight 50 = .ok (.iload 4, 2) := by decide +kernel
theorem dX9_sight_52 : decode cX9_sight 52 = .ok (.iload_n 3, 1) := by decide +kernel
theorem dX9_sight_53 : decode cX9_sight 53 = .ok (.iastore, 1) := by decide +kernel
theorem dX9_sight_54 : decode cX9_sight 54 = .ok (.iload 5, 2) := by decide +kernel
theorem dX9_sight_56 : decode cX9_sight 56 = .ok (.ireturn, 1) := by decide +kernel
theorem dX9_lookNow_0 : decode cX9_lookNow 0 = .ok (.aload_n 0, 1) := by decide +kernel
theorem dX9_lookNow_1 : decode cX9_lookNow 1 = .ok (.getfield 43, 3) := by decide +kernel
theorem dX9_lookNow_4 : decode cX9_lookNow 4 = .ok (.aload_n 0, 1) := by decide +kernel
theorem dX9_lookNow_5 : decode cX9_lookNow 5 = .ok (.getfield 19, 3) := by decide +kernel
theorem dX9_lookNow_8 : decode cX9_lookNow 8 = .ok (.invokevirtual 151, 3) := by decide +kernel
theorem dX9_lookNow_11 : decode cX9_lookNow 11 = .ok (.aload_n 0, 1) := by decide +kernel
theorem dX9_lookNow_12 : decode cX9_lookNow 12 = .ok (.getfield 43, 3) := by decide +kernel
theorem dX9_lookNow_15 : decode cX9_lookNow 15 = .ok (.aload_n 0, 1) := by decide +kernel
theorem dX9_lookNow_16 : decode cX9_lookNow 16 = .ok (.getfield 19, 3) := by decide +kernel
theorem dX9_lookNow_19 : decode cX9_lookNow 19 = .ok (.getfield 154, 3) := by decide +kernel
theorem dX9_lookNow_22 : decode cX9_lookNow 22 = .ok (.invokevirtual 158, 3) := by decide +kernel
theorem dX9_lookNow_25 : decode cX9_lookNow 25 = .ok (.return_, 1) := by decide +kernel
theorem dX9_tops_0 : decode cX9_tops 0 = .ok (.aload_n 0, 1) := by decide +kernel
theorem dX9_tops_1 : decode cX9_tops 1 = .ok (.getfield 19, 3) := by decide +kernel
theorem dX9_tops_4 : decode cX9_tops 4 = .ok (.getfield 97, 3) := by decide +kernel
theorem dX9_tops_7 : decode cX9_tops 7 = .ok (.ifCond .ne 6, 3) := by decide +kernel
theorem dX9_tops_10 : decode cX9_tops 10 = .ok (.bipush (-2), 2) := by decide +kernel
theorem dX9_tops_12 : decode cX9_tops 12 = .ok (.ireturn, 1) := by decide +kernel
theorem dX9_tops_13 : decode cX9_tops 13 = .ok (.aload_n 0, 1) := by decide +kernel
theorem dX9_tops_14 : decode cX9_tops 14 = .ok (.invokevirtual 162, 3) := by decide +kernel
theorem dX9_tops_17 : decode cX9_tops 17 = .ok (.aload_n 0, 1) := by decide +kernel
theorem dX9_tops_18 : decode cX9_tops 18 = .ok (.getfield 43, 3) := by decide +kernel
theorem dX9_tops_21 : decode cX9_tops 21 = .ok (.getfield 165, 3) := by decide +kernel
theorem dX9_tops_24 : decode cX9_tops 24 = .ok (.ireturn, 1) := by decide +kernel
theorem dX9_next_0 : decode cX9_next 0 = .ok (.aload_n 0, 1) := by decide +kernel
theorem dX9_next_1 : decode cX9_next 1 = .ok (.getfield 19, 3) := by decide +kernel
theorem dX9_next_4 : decode cX9_next 4 = .ok (.getfield 97, 3) := by decide +kernel
theorem dX9_next_7 : decode cX9_next 7 = .ok (.ifCond .ne 6, 3) := by decide +kernel
theorem dX9_next_10 : decode cX9_next 10 = .ok (.bipush (-2), 2) := by decide +kernel
theorem dX9_next_12 : decode cX9_next 12 = .ok (.ireturn, 1) := by decide +kernel
theorem dX9_next_13 : decode cX9_next 13 = .ok (.aload_n 0, 1) := by decide +kernel
theorem dX9_next_14 : decode cX9_next 14 = .ok (.invokevirtual 162, 3) := by decide +kernel
theorem dX9_next_17 : decode cX9_next 17 = .ok (.aload_n 0, 1) := by decide +kernel
theorem dX9_next_18 : decode cX9_next 18 = .ok (.getfield 43, 3) := by decide +kernel
theorem dX9_next_21 : decode cX9_next 21 = .ok (.getfield 168, 3) := by decide +kernel
theorem dX9_next_24 : decode cX9_next 24 = .ok (.ireturn, 1) := by decide +kernel
theorem dX9_loses_0 : decode cX9_loses 0 = .ok (.aload_n 0, 1) := by decide +kernel
theorem dX9_loses_1 : decode cX9_loses 1 = .ok (.iload_n 1, 1) := by decide +kernel
theorem dX9_loses_2 : decode cX9_loses 2 = .ok (.i2l, 1) := by decide +kernel
theorem dX9_loses_3 : decode cX9_loses 3 = .ok (.invokevirtual 100, 3) := by decide +kernel
theorem dX9_loses_6 : decode cX9_loses 6 = .ok (.ifCond .ne 6, 3) := by decide +kernel
theorem dX9_loses_9 : decode cX9_loses 9 = .ok (.bipush (-2), 2) := by decide +kernel
theorem dX9_loses_11 : decode cX9_loses 11 = .ok (.ireturn, 1) := by decide +kernel
theorem dX9_loses_12 : decode cX9_loses 12 = .ok (.aload_n 0, 1) := by decide +kernel
theorem dX9_loses_13 : decode cX9_loses 13 = .ok (.invokevirtual 162, 3) := by decide +kernel
theorem dX9_loses_16 : decode cX9_loses 16 = .ok (.aload_n 0, 1) := by decide +kernel
theorem dX9_loses_17 : decode cX9_loses 17 = .ok (.getfield 43, 3) := by decide +kernel
theorem dX9_loses_20 : decode cX9_loses 20 = .ok (.iload_n 1, 1) := by decide +kernel
theorem dX9_loses_21 : decode cX9_loses 21 = .ok (.invokevirtual 171, 3) := by decide +kernel
theorem dX9_loses_24 : decode cX9_loses 24 = .ok (.ireturn, 1) := by decide +kernel
theorem dX9_stroke_0 : decode cX9_stroke 0 = .ok (.aload_n 0, 1) := by decide +kernel
theorem dX9_stroke_1 : decode cX9_stroke 1 = .ok (.getfield 19, 3) := by decide +kernel
theorem dX9_stroke_4 : decode cX9_stroke 4 = .ok (.getfield 97, 3) := by decide +kernel
theorem dX9_stroke_7 : decode cX9_stroke 7 = .ok (.ifCond .ne 6, 3) := by decide +kernel
theorem dX9_stroke_10 : decode cX9_stroke 10 = .ok (.bipush (-2), 2) := by decide +kernel
theorem dX9_stroke_12 : decode cX9_stroke 12 = .ok (.ireturn, 1) := by decide +kernel
theorem dX9_stroke_13 : decode cX9_stroke 13 = .ok (.aload_n 0, 1) := by decide +kernel
theorem dX9_stroke_14 : decode cX9_stroke 14 = .ok (.getfield 19, 3) := by decide +kernel
theorem dX9_stroke_17 : decode cX9_stroke 17 = .ok (.aload_n 0, 1) := by decide +kernel
theorem dX9_stroke_18 : decode cX9_stroke 18 = .ok (.getfield 43, 3) := by decide +kernel
theorem dX9_stroke_21 : decode cX9_stroke 21 = .ok (.invokevirtual 175, 3) := by decide +kernel
theorem dX9_stroke_24 : decode cX9_stroke 24 = .ok (.aload_n 0, 1) := by decide +kernel
theorem dX9_stroke_25 : decode cX9_stroke 25 = .ok (.getfield 43, 3) := by decide +kernel
theorem dX9_stroke_28 : decode cX9_stroke 28 = .ok (.getfield 179, 3) := by decide +kernel
theorem dX9_stroke_31 : decode cX9_stroke 31 = .ok (.ireturn, 1) := by decide +kernel
theorem dX9_whyNot_0 : decode cX9_whyNot 0 = .ok (.aload_n 0, 1) := by decide +kernel
theorem dX9_whyNot_1 : decode cX9_whyNot 1 = .ok (.lload_n 2, 1) := by decide +kernel
theorem dX9_whyNot_2 : decode cX9_whyNot 2 = .ok (.invokevirtual 100, 3) := by decide +kernel
theorem dX9_whyNot_5 : decode cX9_whyNot 5 = .ok (.ifCond .eq 31, 3) := by decide +kernel
theorem dX9_whyNot_8 : decode cX9_whyNot 8 = .ok (.lload 4, 2) := by decide +kernel
theorem dX9_whyNot_10 : decode cX9_whyNot 10 = .ok (.lconst 0, 1) := by decide +kernel
theorem dX9_whyNot_11 : decode cX9_whyNot 11 = .ok (.lcmp, 1) := by decide +kernel
theorem dX9_whyNot_12 : decode cX9_whyNot 12 = .ok (.ifCond .lt 24, 3) := by decide +kernel
theorem dX9_whyNot_15 : decode cX9_whyNot 15 = .ok (.lload 4, 2) := by decide +kernel
theorem dX9_whyNot_17 : decode cX9_whyNot 17 = .ok (.lconst 1, 1) := by decide +kernel
theorem dX9_whyNot_18 : decode cX9_whyNot 18 = .ok (.lcmp, 1) := by decide +kernel
theorem dX9_whyNot_19 : decode cX9_whyNot 19 = .ok (.ifCond .gt 17, 3) := by decide +kernel
theorem dX9_whyNot_22 : decode cX9_whyNot 22 = .ok (.lload 6, 2) := by decide +kernel
theorem dX9_whyNot_24 : decode cX9_whyNot 24 = .ok (.lconst 0, 1) := by decide +kernel
theorem dX9_whyNot_25 : decode cX9_whyNot 25 = .ok (.lcmp, 1) := by decide +kernel
theorem dX9_whyNot_26 : decode cX9_whyNot 26 = .ok (.ifCond .lt 10, 3) := by decide +kernel
theorem dX9_whyNot_29 : decode cX9_whyNot 29 = .ok (.lload 8, 2) := by decide +kernel
theorem dX9_whyNot_31 : decode cX9_whyNot 31 = .ok (.lconst 0, 1) := by decide +kernel
theorem dX9_whyNot_32 : decode cX9_whyNot 32 = .ok (.lcmp, 1) := by decide +kernel
theorem dX9_whyNot_33 : decode cX9_whyNot 33 = .ok (.ifCond .ge 6, 3) := by decide +kernel
theorem dX9_whyNot_36 : decode cX9_whyNot 36 = .ok (.bipush (-2), 2) := by decide +kernel
theorem dX9_whyNot_38 : decode cX9_whyNot 38 = .ok (.ireturn, 1) := by decide +kernel
theorem dX9_whyNot_39 : decode cX9_whyNot 39 = .ok (.lload 8, 2) := by decide +kernel
theorem dX9_whyNot_41 : decode cX9_whyNot 41 = .ok (.lconst 0, 1) := by decide +kernel
theorem dX9_whyNot_42 : decode cX9_whyNot 42 = .ok (.lcmp, 1) := by decide +kernel
theorem dX9_whyNot_43 : decode cX9_whyNot 43 = .ok (.ifCond .ne 15, 3) := by decide +kernel
theorem dX9_whyNot_46 : decode cX9_whyNot 46 = .ok (.lload 10, 2) := by decide +kernel
theorem dX9_whyNot_48 : decode cX9_whyNot 48 = .ok (.ldc2_w 182, 3) := by decide +kernel
theorem dX9_whyNot_51 : decode cX9_whyNot 51 = .ok (.lcmp, 1) := by decide +kernel
theorem dX9_whyNot_52 : decode cX9_whyNot 52 = .ok (.ifCond .eq 25, 3) := by decide +kernel
theorem dX9_whyNot_55 : decode cX9_whyNot 55 = .ok (.goto 19, 3) := by decide +kernel
theorem dX9_whyNot_58 : decode cX9_whyNot 58 = .ok (.aload_n 0, 1) := by decide +kernel
theorem dX9_whyNot_59 : decode cX9_whyNot 59 = .ok (.lload 10, 2) := by decide +kernel
theorem dX9_whyNot_61 : decode cX9_whyNot 61 = .ok (.invokevirtual 100, 3) := by decide +kernel
theorem dX9_whyNot_64 : decode cX9_whyNot 64 = .ok (.ifCond .eq 10, 3) := by decide +kernel
theorem dX9_whyNot_67 : decode cX9_whyNot 67 = .ok (.lload 10, 2) := by decide +kernel
theorem dX9_whyNot_69 : decode cX9_whyNot 69 = .ok (.lload_n 2, 1) := by decide +kernel
theorem dX9_whyNot_70 : decode cX9_whyNot 70 = .ok (.lcmp, 1) := by decide +kernel
theorem dX9_whyNot_71 : decode cX9_whyNot 71 = .ok (.ifCond .ne 6, 3) := by decide +kernel
theorem dX9_whyNot_74 : decode cX9_whyNot 74 = .ok (.bipush (-2), 2) := by decide +kernel
theorem dX9_whyNot_76 : decode cX9_whyNot 76 = .ok (.ireturn, 1) := by decide +kernel
theorem dX9_whyNot_77 : decode cX9_whyNot 77 = .ok (.aload_n 1, 1) := by decide +kernel
theorem dX9_whyNot_78 : decode cX9_whyNot 78 = .ok (.lload_n 2, 1) := by decide +kernel
theorem dX9_whyNot_79 : decode cX9_whyNot 79 = .ok (.l2i, 1) := by decide +kernel
theorem dX9_whyNot_80 : decode cX9_whyNot 80 = .ok (.lload 4, 2) := by decide +kernel
theorem dX9_whyNot_82 : decode cX9_whyNot 82 = .ok (.l2i, 1) := by decide +kernel
theorem dX9_whyNot_83 : decode cX9_whyNot 83 = .ok (.invokevirtual 184, 3) := by decide +kernel
theorem dX9_whyNot_86 : decode cX9_whyNot 86 = .ok (.istore 12, 2) := by decide +kernel
theorem dX9_whyNot_88 : decode cX9_whyNot 88 = .ok (.lload 6, 2) := by decide +kernel
theorem dX9_whyNot_90 : decode cX9_whyNot 90 = .ok (.iload 12, 2) := by decide +kernel
theorem dX9_whyNot_92 : decode cX9_whyNot 92 = .ok (.i2l, 1) := by decide +kernel
theorem dX9_whyNot_93 : decode cX9_whyNot 93 = .ok (.lcmp, 1) := by decide +kernel
theorem dX9_whyNot_94 : decode cX9_whyNot 94 = .ok (.ifCond .gt 15, 3) := by decide +kernel
theorem dX9_whyNot_97 : decode cX9_whyNot 97 = .ok (.lload 8, 2) := by decide +kernel
theorem dX9_whyNot_99 : decode cX9_whyNot 99 = .ok (.iload 12, 2) := by decide +kernel
theorem dX9_whyNot_101 : decode cX9_whyNot 101 = .ok (.i2l, 1) := by decide +kernel
theorem dX9_whyNot_102 : decode cX9_whyNot 102 = .ok (.lload 6, 2) := by decide +kernel
theorem dX9_whyNot_104 : decode cX9_whyNot 104 = .ok (.lsub, 1) := by decide +kernel
theorem dX9_whyNot_105 : decode cX9_whyNot 105 = .ok (.lcmp, 1) := by decide +kernel
theorem dX9_whyNot_106 : decode cX9_whyNot 106 = .ok (.ifCond .le 8, 3) := by decide +kernel
theorem dX9_whyNot_109 : decode cX9_whyNot 109 = .ok (.bipush (-5), 2) := by decide +kernel
theorem dX9_whyNot_111 : decode cX9_whyNot 111 = .ok (.goto 4, 3) := by decide +kernel
theorem dX9_whyNot_114 : decode cX9_whyNot 114 = .ok (.iconst 0, 1) := by decide +kernel
theorem dX9_whyNot_115 : decode cX9_whyNot 115 = .ok (.ireturn, 1) := by decide +kernel
theorem dX9_act_0 : decode cX9_act 0 = .ok (.aload_n 0, 1) := by decide +kernel
theorem dX9_act_1 : decode cX9_act 1 = .ok (.aload_n 0, 1) := by decide +kernel
theorem dX9_act_2 : decode cX9_act 2 = .ok (.getfield 19, 3) := by decide +kernel
theorem dX9_act_5 : decode cX9_act 5 = .ok (.iload_n 1, 1) := by decide +kernel
theorem dX9_act_6 : decode cX9_act 6 = .ok (.i2l, 1) := by decide +kernel
theorem dX9_act_7 : decode cX9_act 7 = .ok (.iload_n 2, 1) := by decide +kernel
theorem dX9_act_8 : decode cX9_act 8 = .ok (.i2l, 1) := by decide +kernel
theorem dX9_act_9 : decode cX9_act 9 = .ok (.iload_n 3, 1) := by decide +kernel
theorem dX9_act_10 : decode cX9_act 10 = .ok (.i2l, 1) := by decide +kernel
theorem dX9_act_11 : decode cX9_act 11 = .ok (.iload 4, 2) := by decide +kernel
theorem dX9_act_13 : decode cX9_act 13 = .ok (.i2l, 1) := by decide +kernel
theorem dX9_act_14 : decode cX9_act 14 = .ok (.iload 5, 2) := by decide +kernel
theorem dX9_act_16 : decode cX9_act 16 = .ok (.i2l, 1) := by decide +kernel
theorem dX9_act_17 : decode cX9_act 17 = .ok (.invokevirtual 187, 3) := by decide +kernel
theorem dX9_act_20 : decode cX9_act 20 = .ok (.istore 6, 2) := by decide +kernel
theorem dX9_act_22 : decode cX9_act 22 = .ok (.iload 6, 2) := by decide +kernel
theorem dX9_act_24 : decode cX9_act 24 = .ok (.ifCond .eq 6, 3) := by decide +kernel
theorem dX9_act_27 : decode cX9_act 27 = .ok (.iload 6, 2) := by decide +kernel
theorem dX9_act_29 : decode cX9_act 29 = .ok (.ireturn, 1) := by decide +kernel
theorem dX9_act_30 : decode cX9_act 30 = .ok (.aload_n 0, 1) := by decide +kernel
theorem dX9_act_31 : decode cX9_act 31 = .ok (.getfield 19, 3) := by decide +kernel
theorem dX9_act_34 : decode cX9_act 34 = .ok (.iload_n 1, 1) := by decide +kernel
theorem dX9_act_35 : decode cX9_act 35 = .ok (.iload_n 2, 1) := by decide +kernel
theorem dX9_act_36 : decode cX9_act 36 = .ok (.iload_n 3, 1) := by decide +kernel
theorem dX9_act_37 : decode cX9_act 37 = .ok (.iload 4, 2) := by decide +kernel
theorem dX9_act_39 : decode cX9_act 39 = .ok (.iload 5, 2) := by decide +kernel
theorem dX9_act_41 : decode cX9_act 41 = .ok (.invokevirtual 191, 3) := by decide +kernel
theorem dX9_act_44 : decode cX9_act 44 = .ok (.aload_n 0, 1) := by decide +kernel
theorem dX9_act_45 : decode cX9_act 45 = .ok (.getfield 19, 3) := by decide +kernel
theorem dX9_act_48 : decode cX9_act 48 = .ok (.getfield 110, 3) := by decide +kernel
theorem dX9_act_51 : decode cX9_act 51 = .ok (.iload_n 1, 1) := by decide +kernel
theorem dX9_act_52 : decode cX9_act 52 = .ok (.aaload, 1) := by decide +kernel
theorem dX9_act_53 : decode cX9_act 53 = .ok (.astore 7, 2) := by decide +kernel
theorem dX9_act_55 : decode cX9_act 55 = .ok (.aload 7, 2) := by decide +kernel
theorem dX9_act_57 : decode cX9_act 57 = .ok (.dup, 1) := by decide +kernel
theorem dX9_act_58 : decode cX9_act 58 = .ok (.getfield 125, 3) := by decide +kernel
theorem dX9_act_61 : decode cX9_act 61 = .ok (.aload 7, 2) := by decide +kernel
theorem dX9_act_63 : decode cX9_act 63 = .ok (.iload_n 2, 1) := by decide +kernel
theorem dX9_act_64 : decode cX9_act 64 = .ok (.iload_n 3, 1) := by decide +kernel
theorem dX9_act_65 : decode cX9_act 65 = .ok (.invokevirtual 195, 3) := by decide +kernel
theorem dX9_act_68 : decode cX9_act 68 = .ok (.iadd, 1) := by decide +kernel
theorem dX9_act_69 : decode cX9_act 69 = .ok (.putfield 125, 3) := by decide +kernel
theorem dX9_act_72 : decode cX9_act 72 = .ok (.aload 7, 2) := by decide +kernel
theorem dX9_act_74 : decode cX9_act 74 = .ok (.getfield 114, 3) := by decide +kernel
theorem dX9_act_77 : decode cX9_act 77 = .ok (.ireturn, 1) := by decide +kernel
theorem dX9_judge_0 : decode cX9_judge 0 = .ok (.iload_n 1, 1) := by decide +kernel
theorem dX9_judge_1 : decode cX9_judge 1 = .ok (.ifCond .lt 8, 3) := by decide +kernel
theorem dX9_judge_4 : decode cX9_judge 4 = .ok (.iload_n 1, 1) := by decide +kernel
theorem dX9_judge_5 : decode cX9_judge 5 = .ok (.iconst 4, 1) := by decide +kernel
theorem dX9_judge_6 : decode cX9_judge 6 = .ok (.if_icmp .lt 6, 3) := by decide +kernel
theorem dX9_judge_9 : decode cX9_judge 9 = .ok (.bipush (-2), 2) := by decide +kernel
theorem dX9_judge_11 : decode cX9_judge 11 = .ok (.ireturn, 1) := by decide +kernel
theorem dX9_judge_12 : decode cX9_judge 12 = .ok (.aload_n 0, 1) := by decide +kernel
theorem dX9_judge_13 : decode cX9_judge 13 = .ok (.getfield 36, 3) := by decide +kernel
theorem dX9_judge_16 : decode cX9_judge 16 = .ok (.iload_n 1, 1) := by decide +kernel
theorem dX9_judge_17 : decode cX9_judge 17 = .ok (.aaload, 1) := by decide +kernel
theorem dX9_judge_18 : decode cX9_judge 18 = .ok (.astore_n 2, 1) := by decide +kernel
theorem dX9_judge_19 : decode cX9_judge 19 = .ok (.aload_n 2, 1) := by decide +kernel
theorem dX9_judge_20 : decode cX9_judge 20 = .ok (.getfield 198, 3) := by decide +kernel
theorem dX9_judge_23 : decode cX9_judge 23 = .ok (.ifCond .ne 6, 3) := by decide +kernel
theorem dX9_judge_26 : decode cX9_judge 26 = .ok (.bipush (-6), 2) := by decide +kernel
theorem dX9_judge_28 : decode cX9_judge 28 = .ok (.ireturn, 1) := by decide +kernel
theorem dX9_judge_29 : decode cX9_judge 29 = .ok (.aload_n 0, 1) := by decide +kernel
theorem dX9_judge_30 : decode cX9_judge 30 = .ok (.invokevirtual 202, 3) := by decide +kernel
theorem dX9_judge_33 : decode cX9_judge 33 = .ok (.astore_n 3, 1) := by decide +kernel
theorem dX9_judge_34 : decode cX9_judge 34 = .ok (.aload_n 2, 1) := by decide +kernel
theorem dX9_judge_35 : decode cX9_judge 35 = .ok (.getfield 206, 3) := by decide +kernel
theorem dX9_judge_38 : decode cX9_judge 38 = .ok (.iconst 5, 1) := by decide +kernel
theorem dX9_judge_39 : decode cX9_judge 39 = .ok (.idiv, 1) := by decide +kernel
theorem dX9_judge_40 : decode cX9_judge 40 = .ok (.istore 4, 2) := by decide +kernel
theorem dX9_judge_42 : decode cX9_judge 42 = .ok (.iconst 0, 1) := by decide +kernel
theorem dX9_judge_43 : decode cX9_judge 43 = .ok (.istore 5, 2) := by decide +kernel
theorem dX9_judge_45 : decode cX9_judge 45 = .ok (.iload 5, 2) := by decide +kernel
theorem dX9_judge_47 : decode cX9_judge 47 = .ok (.iload 4, 2) := by decide +kernel
theorem dX9_judge_49 : decode cX9_judge 49 = .ok (.if_icmp .ge 28, 3) := by decide +kernel
theorem dX9_judge_52 : decode cX9_judge 52 = .ok (.aload_n 0, 1) := by decide +kernel
theorem dX9_judge_53 : decode cX9_judge 53 = .ok (.aload_n 3, 1) := by decide +kernel
theorem dX9_judge_54 : decode cX9_judge 54 = .ok (.aload_n 2, 1) := by decide +kernel
theorem dX9_judge_55 : decode cX9_judge 55 = .ok (.getfield 207, 3) := by decide +kernel
theorem dX9_judge_58 : decode cX9_judge 58 = .ok (.iload 5, 2) := by decide +kernel
theorem dX9_judge_60 : decode cX9_judge 60 = .ok (.iconst 5, 1) := by decide +kernel
theorem dX9_judge_61 : decode cX9_judge 61 = .ok (.imul, 1) := by decide +kernel
theorem dX9_judge_62 : decode cX9_judge 62 = .ok (.invokevirtual 211, 3) := by decide +kernel
theorem dX9_judge_65 : decode cX9_judge 65 = .ok (.ifCond .ne 6, 3) := by decide +kernel
theorem dX9_judge_68 : decode cX9_judge 68 = .ok (.iload 5, 2) := by decide +kernel
theorem dX9_judge_70 : decode cX9_judge 70 = .ok (.ireturn, 1) := by decide +kernel
theorem dX9_judge_71 : decode cX9_judge 71 = .ok (.iinc 5 1, 3) := by decide +kernel
theorem dX9_judge_74 : decode cX9_judge 74 = .ok (.goto (-29), 3) := by decide +kernel
theorem dX9_judge_77 : decode cX9_judge 77 = .ok (.iload 4, 2) := by decide +kernel
theorem dX9_judge_79 : decode cX9_judge 79 = .ok (.ireturn, 1) := by decide +kernel
theorem dX9_doInThought_0 : decode cX9_doInThought 0 = .ok (.iload_n 3, 1) := by decide +kernel
theorem dX9_doInThought_1 : decode cX9_doInThought 1 = .ok (.ifCond .lt 11, 3) := by decide +kernel
theorem dX9_doInThought_4 : decode cX9_doInThought 4 = .ok (.iload_n 3, 1) := by decide +kernel
theorem dX9_doInThought_5 : decode cX9_doInThought 5 = .ok (.iconst 5, 1) := by decide +kernel
theorem dX9_doInThought_6 : decode cX9_doInThought 6 = .ok (.iadd, 1) := by decide +kernel
theorem dX9_doInThought_7 : decode cX9_doInThought 7 = .ok (.aload_n 2, 1) := by decide +kernel
theorem dX9_doInThought_8 : decode cX9_doInThought 8 = .ok (.arraylength, 1) := by decide +kernel
theorem dX9_doInThought_9 : decode cX9_doInThought 9 = .ok (.if_icmp .le 5, 3) := by decide +kernel
theorem dX9_doInThought_12 : decode cX9_doInThought 12 = .ok (.iconst 0, 1) := by decide +kernel
theorem dX9_doInThought_13 : decode cX9_doInThought 13 = .ok (.ireturn, 1) := by decide +kernel
theorem dX9_doInThought_14 : decode cX9_doInThought 14 = .ok (.aload_n 0, 1) := by decide +kernel
theorem dX9_doInThought_15 : decode cX9_doInThought 15 = .ok (.aload_n 1, 1) := by decide +kernel
theorem dX9_doInThought_16 : decode cX9_doInThought 16 = .ok (.aload_n 2, 1) := by decide +kernel
theorem dX9_doInThought_17 : decode cX9_doInThought 17 = .ok (.iload_n 3, 1) := by decide +kernel
theorem dX9_doInThought_18 : decode cX9_doInThought 18 = .ok (.laload, 1) := by decide +kernel
theorem dX9_doInThought_19 : decode cX9_doInThought 19 = .ok (.aload_n 2, 1) := by decide +kernel
theorem dX9_doInThought_20 : decode cX9_doInThought 20 = .ok (.iload_n 3, 1) := by decide +kernel
theorem dX9_doInThought_21 : decode cX9_doInThought 21 = .ok (.iconst 1, 1) := by decide +kernel
theorem dX9_doInThought_22 : decode cX9_doInThought 22 = .ok (.iadd, 1) := by decide +kernel
theorem dX9_doInThought_23 : decode cX9_doInThought 23 = .ok (.laload, 1) := by decide +kernel
theorem dX9_doInThought_24 : decode cX9_doInThought 24 = .ok (.aload_n 2, 1) := by decide +kernel
theorem dX9_doInThought_25 : decode cX9_doInThought 25 = .ok (.iload_n 3, 1) := by decide +kernel
theorem dX9_doInThought_26 : decode cX9_doInThought 26 = .ok (.iconst 2, 1) := by decide +kernel
theorem dX9_doInThought_27 : decode cX9_doInThought 27 = .ok (.iadd, 1) := by decide +kernel
theorem dX9_doInThought_28 : decode cX9_doInThought 28 = .ok (.laload, 1) := by decide +kernel
theorem dX9_doInThought_29 : decode cX9_doInThought 29 = .ok (.aload_n 2, 1) := by decide +kernel
theorem dX9_doInThought_30 : decode cX9_doInThought 30 = .ok (.iload_n 3, 1) := by decide +kernel
theorem dX9_doInThought_31 : decode cX9_doInThought 31 = .ok (.iconst 3, 1) := by decide +kernel
theorem dX9_doInThought_32 : decode cX9_doInThought 32 = .ok (.iadd, 1) := by decide +kernel
theorem dX9_doInThought_33 : decode cX9_doInThought 33 = .ok (.laload, 1) := by decide +kernel
theorem dX9_doInThought_34 : decode cX9_doInThought 34 = .ok (.aload_n 2, 1) := by decide +kernel
theorem dX9_doInThought_35 : decode cX9_doInThought 35 = .ok (.iload_n 3, 1) := by decide +kernel
theorem dX9_doInThought_36 : decode cX9_doInThought 36 = .ok (.iconst 4, 1) := by decide +kernel
theorem dX9_doInThought_37 : decode cX9_doInThought 37 = .ok (.iadd, 1) := by decide +kernel
theorem dX9_doInThought_38 : decode cX9_doInThought 38 = .ok (.laload, 1) := by decide +kernel
theorem dX9_doInThought_39 : decode cX9_doInThought 39 = .ok (.invokevirtual 187, 3) := by decide +kernel
theorem dX9_doInThought_42 : decode cX9_doInThought 42 = .ok (.ifCond .eq 5, 3) := by decide +kernel
theorem dX9_doInThought_45 : decode cX9_doInThought 45 = .ok (.iconst 0, 1) := by decide +kernel
theorem dX9_doInThought_46 : decode cX9_doInThought 46 = .ok (.ireturn, 1) := by decide +kernel
theorem dX9_doInThought_47 : decode cX9_doInThought 47 = .ok (.aload_n 1, 1) := by decide +kernel
theorem dX9_doInThought_48 : decode cX9_doInThought 48 = .ok (.aload_n 2, 1) := by decide +kernel
theorem dX9_doInThought_49 : decode cX9_doInThought 49 = .ok (.iload_n 3, 1) := by decide +kernel
theorem dX9_doInThought_50 : decode cX9_doInThought 50 = .ok (.laload, 1) := by decide +kernel
theorem dX9_doInThought_51 : decode cX9_doInThought 51 = .ok (.l2i, 1) := by decide +kernel
theorem dX9_doInThought_52 : decode cX9_doInThought 52 = .ok (.aload_n 2, 1) := by decide +kernel
theorem dX9_doInThought_53 : decode cX9_doInThought 53 = .ok (.iload_n 3, 1) := by decide +kernel
theorem dX9_doInThought_54 : decode cX9_doInThought 54 = .ok (.iconst 1, 1) := by decide +kernel
theorem dX9_doInThought_55 : decode cX9_doInThought 55 = .ok (.iadd, 1) := by decide +kernel
theorem dX9_doInThought_56 : decode cX9_doInThought 56 = .ok (.laload, 1) := by decide +kernel
theorem dX9_doInThought_57 : decode cX9_doInThought 57 = .ok (.l2i, 1) := by decide +kernel
theorem dX9_doInThought_58 : decode cX9_doInThought 58 = .ok (.aload_n 2, 1) := by decide +kernel
theorem dX9_doInThought_59 : decode cX9_doInThought 59 = .ok (.iload_n 3, 1) := by decide +kernel
theorem dX9_doInThought_60 : decode cX9_doInThought 60 = .ok (.iconst 2, 1) := by decide +kernel
theorem dX9_doInThought_61 : decode cX9_doInThought 61 = .ok (.iadd, 1) := by decide +kernel
theorem dX9_doInThought_62 : decode cX9_doInThought 62 = .ok (.laload, 1) := by decide +kernel
theorem dX9_doInThought_63 : decode cX9_doInThought 63 = .ok (.l2i, 1) := by decide +kernel
theorem dX9_doInThought_64 : decode cX9_doInThought 64 = .ok (.aload_n 2, 1) := by decide +kernel
theorem dX9_doInThought_65 : decode cX9_doInThought 65 = .ok (.iload_n 3, 1) := by decide +kernel
theorem dX9_doInThought_66 : decode cX9_doInThought 66 = .ok (.iconst 3, 1) := by decide +kernel
theorem dX9_doInThought_67 : decode cX9_doInThought 67 = .ok (.iadd, 1) := by decide +kernel
theorem dX9_doInThought_68 : decode cX9_doInThought 68 = .ok (.laload, 1) := by decide +kernel
theorem dX9_doInThought_69 : decode cX9_doInThought 69 = .ok (.l2i, 1) := by decide +kernel
theorem dX9_doInThought_70 : decode cX9_doInThought 70 = .ok (.aload_n 2, 1) := by decide +kernel
theorem dX9_doInThought_71 : decode cX9_doInThought 71 = .ok (.iload_n 3, 1) := by decide +kernel
theorem dX9_doInThought_72 : decode cX9_doInThought 72 = .ok (.iconst 4, 1) := by decide +kernel
theorem dX9_doInThought_73 : decode cX9_doInThought 73 = .ok (.iadd, 1) := by decide +kernel
theorem dX9_doInThought_74 : decode cX9_doInThought 74 = .ok (.laload, 1) := by decide +kernel
theorem dX9_doInThought_75 : decode cX9_doInThought 75 = .ok (.l2i, 1) := by decide +kernel
theorem dX9_doInThought_76 : decode cX9_doInThought 76 = .ok (.invokevirtual 191, 3) := by decide +kernel
theorem dX9_doInThought_79 : decode cX9_doInThought 79 = .ok (.iconst 1, 1) := by decide +kernel
theorem dX9_doInThought_80 : decode cX9_doInThought 80 = .ok (.ireturn, 1) := by decide +kernel
theorem dX9_run_0 : decode cX9_run 0 = .ok (.aload_n 0, 1) := by decide +kernel
theorem dX9_run_1 : decode cX9_run 1 = .ok (.iload_n 1, 1) := by decide +kernel
theorem dX9_run_2 : decode cX9_run 2 = .ok (.invokevirtual 215, 3) := by decide +kernel
theorem dX9_run_5 : decode cX9_run 5 = .ok (.ifCond .ne 6, 3) := by decide +kernel
theorem dX9_run_8 : decode cX9_run 8 = .ok (.bipush (-2), 2) := by decide +kernel
theorem dX9_run_10 : decode cX9_run 10 = .ok (.ireturn, 1) := by decide +kernel
theorem dX9_run_11 : decode cX9_run 11 = .ok (.iconst 0, 1) := by decide +kernel
theorem dX9_run_12 : decode cX9_run 12 = .ok (.istore_n 2, 1) := by decide +kernel
theorem dX9_run_13 : decode cX9_run 13 = .ok (.iconst 0, 1) := by decide +kernel
theorem dX9_run_14 : decode cX9_run 14 = .ok (.istore_n 3, 1) := by decide +kernel
theorem dX9_run_15 : decode cX9_run 15 = .ok (.iload_n 3, 1) := by decide +kernel
theorem dX9_run_16 : decode cX9_run 16 = .ok (.iload_n 1, 1) := by decide +kernel
theorem dX9_run_17 : decode cX9_run 17 = .ok (.if_icmp .ge 31, 3) := by decide +kernel
theorem dX9_run_20 : decode cX9_run 20 = .ok (.aload_n 0, 1) := by decide +kernel
theorem dX9_run_21 : decode cX9_run 21 = .ok (.getfield 57, 3) := by decide +kernel
theorem dX9_run_24 : decode cX9_run 24 = .ok (.aload_n 0, 1) := by decide +kernel
theorem dX9_run_25 : decode cX9_run 25 = .ok (.getfield 19, 3) := by decide +kernel
theorem dX9_run_28 : decode cX9_run 28 = .ok (.iconst 1, 1) := by decide +kernel
theorem dX9_run_29 : decode cX9_run 29 = .ok (.invokevirtual 218, 3) := by decide +kernel
theorem dX9_run_32 : decode cX9_run 32 = .ok (.iload_n 2, 1) := by decide +kernel
theorem dX9_run_33 : decode cX9_run 33 = .ok (.aload_n 0, 1) := by decide +kernel
theorem dX9_run_34 : decode cX9_run 34 = .ok (.getfield 57, 3) := by decide +kernel
theorem dX9_run_37 : decode cX9_run 37 = .ok (.getfield 222, 3) := by decide +kernel
theorem dX9_run_40 : decode cX9_run 40 = .ok (.iadd, 1) := by decide +kernel
theorem dX9_run_41 : decode cX9_run 41 = .ok (.istore_n 2, 1) := by decide +kernel
theorem dX9_run_42 : decode cX9_run 42 = .ok (.iinc 3 1, 3) := by decide +kernel
theorem dX9_run_45 : decode cX9_run 45 = .ok (.goto (-30), 3) := by decide +kernel
