theorem dX10_keep_65 : decode cX10_keep 65 = .ok (.iconst 0, 1) := by decide +kernel
theorem dX10_keep_66 : decode cX10_keep 66 = .ok (.ireturn, 1) := by decide +kernel
theorem dX10_back_0 : decode cX10_back 0 = .ok (.iload_n 1, 1) := by decide +kernel
theorem dX10_back_1 : decode cX10_back 1 = .ok (.i2l, 1) := by decide +kernel
theorem dX10_back_2 : decode cX10_back 2 = .ok (.lconst 0, 1) := by decide +kernel
theorem dX10_back_3 : decode cX10_back 3 = .ok (.ldc2_w 96, 3) := by decide +kernel
theorem dX10_back_6 : decode cX10_back 6 = .ok (.invokestatic 98, 3) := by decide +kernel
theorem dX10_back_9 : decode cX10_back 9 = .ok (.ifCond .ne 6, 3) := by decide +kernel
theorem dX10_back_12 : decode cX10_back 12 = .ok (.bipush (-2), 2) := by decide +kernel
theorem dX10_back_14 : decode cX10_back 14 = .ok (.ireturn, 1) := by decide +kernel
theorem dX10_back_15 : decode cX10_back 15 = .ok (.aload_n 0, 1) := by decide +kernel
theorem dX10_back_16 : decode cX10_back 16 = .ok (.getfield 24, 3) := by decide +kernel
theorem dX10_back_19 : decode cX10_back 19 = .ok (.iload_n 1, 1) := by decide +kernel
theorem dX10_back_20 : decode cX10_back 20 = .ok (.baload, 1) := by decide +kernel
theorem dX10_back_21 : decode cX10_back 21 = .ok (.ifCond .ne 6, 3) := by decide +kernel
theorem dX10_back_24 : decode cX10_back 24 = .ok (.bipush (-6), 2) := by decide +kernel
theorem dX10_back_26 : decode cX10_back 26 = .ok (.ireturn, 1) := by decide +kernel
theorem dX10_people_0 : decode cX10_people 0 = .ok (.aload_n 0, 1) := by decide +kernel
theorem dX10_people_1 : decode cX10_people 1 = .ok (.getfield 13, 3) := by decide +kernel
theorem dX10_people_4 : decode cX10_people 4 = .ok (.bipush 7, 2) := by decide +kernel
theorem dX10_people_6 : decode cX10_people 6 = .ok (.iaload, 1) := by decide +kernel
theorem dX10_people_7 : decode cX10_people 7 = .ok (.ireturn, 1) := by decide +kernel
theorem dX10_isPerson_0 : decode cX10_isPerson 0 = .ok (.iload_n 1, 1) := by decide +kernel
theorem dX10_isPerson_1 : decode cX10_isPerson 1 = .ok (.i2l, 1) := by decide +kernel
theorem dX10_isPerson_2 : decode cX10_isPerson 2 = .ok (.lconst 0, 1) := by decide +kernel
theorem dX10_isPerson_3 : decode cX10_isPerson 3 = .ok (.aload_n 0, 1) := by decide +kernel
theorem dX10_isPerson_4 : decode cX10_isPerson 4 = .ok (.getfield 13, 3) := by decide +kernel
theorem dX10_isPerson_7 : decode cX10_isPerson 7 = .ok (.bipush 7, 2) := by decide +kernel
theorem dX10_isPerson_9 : decode cX10_isPerson 9 = .ok (.iaload, 1) := by decide +kernel
theorem dX10_isPerson_10 : decode cX10_isPerson 10 = .ok (.iconst 1, 1) := by decide +kernel
theorem dX10_isPerson_11 : decode cX10_isPerson 11 = .ok (.isub, 1) := by decide +kernel
theorem dX10_isPerson_12 : decode cX10_isPerson 12 = .ok (.i2l, 1) := by decide +kernel
theorem dX10_isPerson_13 : decode cX10_isPerson 13 = .ok (.invokestatic 98, 3) := by decide +kernel
theorem dX10_isPerson_16 : decode cX10_isPerson 16 = .ok (.ireturn, 1) := by decide +kernel
theorem dX10_areTwo_0 : decode cX10_areTwo 0 = .ok (.aload_n 0, 1) := by decide +kernel
theorem dX10_areTwo_1 : decode cX10_areTwo 1 = .ok (.iload_n 1, 1) := by decide +kernel
theorem dX10_areTwo_2 : decode cX10_areTwo 2 = .ok (.invokevirtual 106, 3) := by decide +kernel
theorem dX10_areTwo_5 : decode cX10_areTwo 5 = .ok (.ifCond .eq 20, 3) := by decide +kernel
theorem dX10_areTwo_25 : decode cX10_areTwo 25 = .ok (.iconst 0, 1) := by decide +kernel
theorem dX10_areTwo_26 : decode cX10_areTwo 26 = .ok (.ireturn, 1) := by decide +kernel
theorem dX10_end_0 : decode cX10_end 0 = .ok (.iload_n 1, 1) := by decide +kernel
theorem dX10_end_1 : decode cX10_end 1 = .ok (.i2l, 1) := by decide +kernel
theorem dX10_end_2 : decode cX10_end 2 = .ok (.lconst 0, 1) := by decide +kernel
theorem dX10_end_3 : decode cX10_end 3 = .ok (.aload_n 0, 1) := by decide +kernel
theorem dX10_end_4 : decode cX10_end 4 = .ok (.getfield 110, 3) := by decide +kernel
theorem dX10_end_7 : decode cX10_end 7 = .ok (.i2l, 1) := by decide +kernel
theorem dX10_end_8 : decode cX10_end 8 = .ok (.invokestatic 98, 3) := by decide +kernel
theorem dX10_end_11 : decode cX10_end 11 = .ok (.ifCond .ne 5, 3) := by decide +kernel
theorem dX10_end_14 : decode cX10_end 14 = .ok (.iconst (-1), 1) := by decide +kernel
theorem dX10_end_15 : decode cX10_end 15 = .ok (.ireturn, 1) := by decide +kernel
theorem dX10_end_16 : decode cX10_end 16 = .ok (.aload_n 0, 1) := by decide +kernel
theorem dX10_end_17 : decode cX10_end 17 = .ok (.iload_n 1, 1) := by decide +kernel
theorem dX10_end_18 : decode cX10_end 18 = .ok (.putfield 110, 3) := by decide +kernel
theorem dX10_end_21 : decode cX10_end 21 = .ok (.iload_n 1, 1) := by decide +kernel
theorem dX10_end_22 : decode cX10_end 22 = .ok (.ireturn, 1) := by decide +kernel
theorem dX10_see_0 : decode cX10_see 0 = .ok (.iload_n 1, 1) := by decide +kernel
theorem dX10_see_1 : decode cX10_see 1 = .ok (.aload_n 0, 1) := by decide +kernel
theorem dX10_see_2 : decode cX10_see 2 = .ok (.getfield 113, 3) := by decide +kernel
theorem dX10_see_5 : decode cX10_see 5 = .ok (.if_icmp .ge 16, 3) := by decide +kernel
theorem dX10_see_21 : decode cX10_see 21 = .ok (.iconst (-1), 1) := by decide +kernel
theorem dX10_see_22 : decode cX10_see 22 = .ok (.ireturn, 1) := by decide +kernel
theorem dX10_advance_0 : decode cX10_advance 0 = .ok (.aload_n 0, 1) := by decide +kernel
theorem dX10_advance_1 : decode cX10_advance 1 = .ok (.aload_n 0, 1) := by decide +kernel
theorem dX10_advance_2 : decode cX10_advance 2 = .ok (.getfield 116, 3) := by decide +kernel
theorem dX10_advance_5 : decode cX10_advance 5 = .ok (.invokevirtual 119, 3) := by decide +kernel
theorem dX10_advance_8 : decode cX10_advance 8 = .ok (.bipush 32, 2) := by decide +kernel
theorem dX10_advance_10 : decode cX10_advance 10 = .ok (.if_icmp .eq 16, 3) := by decide +kernel
theorem dX10_advance_13 : decode cX10_advance 13 = .ok (.aload_n 0, 1) := by decide +kernel
theorem dX10_advance_14 : decode cX10_advance 14 = .ok (.aload_n 0, 1) := by decide +kernel
theorem dX10_advance_15 : decode cX10_advance 15 = .ok (.getfield 116, 3) := by decide +kernel
theorem dX10_advance_18 : decode cX10_advance 18 = .ok (.invokevirtual 119, 3) := by decide +kernel
theorem dX10_advance_21 : decode cX10_advance 21 = .ok (.bipush 10, 2) := by decide +kernel
theorem dX10_advance_23 : decode cX10_advance 23 = .ok (.if_icmp .ne 16, 3) := by decide +kernel
theorem dX10_advance_39 : decode cX10_advance 39 = .ok (.aload_n 0, 1) := by decide +kernel
theorem dX10_advance_40 : decode cX10_advance 40 = .ok (.aload_n 0, 1) := by decide +kernel
theorem dX10_advance_41 : decode cX10_advance 41 = .ok (.getfield 116, 3) := by decide +kernel
theorem dX10_advance_44 : decode cX10_advance 44 = .ok (.putfield 123, 3) := by decide +kernel
theorem dX10_advance_47 : decode cX10_advance 47 = .ok (.aload_n 0, 1) := by decide +kernel
theorem dX10_advance_48 : decode cX10_advance 48 = .ok (.aload_n 0, 1) := by decide +kernel
theorem dX10_advance_49 : decode cX10_advance 49 = .ok (.getfield 116, 3) := by decide +kernel
theorem dX10_advance_52 : decode cX10_advance 52 = .ok (.invokevirtual 119, 3) := by decide +kernel
theorem dX10_advance_55 : decode cX10_advance 55 = .ok (.istore_n 1, 1) := by decide +kernel
theorem dX10_advance_56 : decode cX10_advance 56 = .ok (.iload_n 1, 1) := by decide +kernel
theorem dX10_advance_57 : decode cX10_advance 57 = .ok (.iconst (-1), 1) := by decide +kernel
theorem dX10_advance_58 : decode cX10_advance 58 = .ok (.if_icmp .ne 11, 3) := by decide +kernel
theorem dX10_advance_61 : decode cX10_advance 61 = .ok (.aload_n 0, 1) := by decide +kernel
theorem dX10_advance_62 : decode cX10_advance 62 = .ok (.iconst 0, 1) := by decide +kernel
theorem dX10_advance_63 : decode cX10_advance 63 = .ok (.putfield 126, 3) := by decide +kernel
theorem dX10_advance_66 : decode cX10_advance 66 = .ok (.goto 173, 3) := by decide +kernel
theorem dX10_advance_239 : decode cX10_advance 239 = .ok (.return_, 1) := by decide +kernel
theorem dX10_good_0 : decode cX10_good 0 = .ok (.aload_n 0, 1) := by decide +kernel
theorem dX10_good_1 : decode cX10_good 1 = .ok (.getfield 147, 3) := by decide +kernel
theorem dX10_good_4 : decode cX10_good 4 = .ok (.ifCond .ne 7, 3) := by decide +kernel
theorem dX10_good_7 : decode cX10_good 7 = .ok (.iconst 1, 1) := by decide +kernel
theorem dX10_good_8 : decode cX10_good 8 = .ok (.goto 4, 3) := by decide +kernel
theorem dX10_good_12 : decode cX10_good 12 = .ok (.ireturn, 1) := by decide +kernel
theorem dX10_fault_0 : decode cX10_fault 0 = .ok (.iload_n 1, 1) := by decide +kernel
theorem dX10_fault_1 : decode cX10_fault 1 = .ok (.ifCond .ne 10, 3) := by decide +kernel
theorem dX10_fault_4 : decode cX10_fault 4 = .ok (.aload_n 0, 1) := by decide +kernel
theorem dX10_fault_5 : decode cX10_fault 5 = .ok (.getfield 147, 3) := by decide +kernel
theorem dX10_fault_8 : decode cX10_fault 8 = .ok (.goto 16, 3) := by decide +kernel
theorem dX10_fault_11 : decode cX10_fault 11 = .ok (.iload_n 1, 1) := by decide +kernel
theorem dX10_fault_12 : decode cX10_fault 12 = .ok (.iconst 1, 1) := by decide +kernel
theorem dX10_fault_13 : decode cX10_fault 13 = .ok (.if_icmp .ne 10, 3) := by decide +kernel
theorem dX10_fault_16 : decode cX10_fault 16 = .ok (.aload_n 0, 1) := by decide +kernel
theorem dX10_fault_17 : decode cX10_fault 17 = .ok (.getfield 35, 3) := by decide +kernel
theorem dX10_fault_20 : decode cX10_fault 20 = .ok (.goto 4, 3) := by decide +kernel
theorem dX10_fault_23 : decode cX10_fault 23 = .ok (.iconst (-1), 1) := by decide +kernel
theorem dX10_fault_24 : decode cX10_fault 24 = .ok (.ireturn, 1) := by decide +kernel
theorem dX10_person_0 : decode cX10_person 0 = .ok (.aload_n 0, 1) := by decide +kernel
theorem dX10_person_1 : decode cX10_person 1 = .ok (.iload_n 1, 1) := by decide +kernel
theorem dX10_person_2 : decode cX10_person 2 = .ok (.invokevirtual 106, 3) := by decide +kernel
theorem dX10_person_5 : decode cX10_person 5 = .ok (.ifCond .eq 15, 3) := by decide +kernel
theorem dX10_person_20 : decode cX10_person 20 = .ok (.bipush (-2), 2) := by decide +kernel
theorem dX10_person_22 : decode cX10_person 22 = .ok (.ireturn, 1) := by decide +kernel
theorem dX10_have_0 : decode cX10_have 0 = .ok (.aload_n 0, 1) := by decide +kernel
theorem dX10_have_1 : decode cX10_have 1 = .ok (.iload_n 1, 1) := by decide +kernel
theorem dX10_have_2 : decode cX10_have 2 = .ok (.invokevirtual 106, 3) := by decide +kernel
theorem dX10_have_5 : decode cX10_have 5 = .ok (.ifCond .eq 19, 3) := by decide +kernel
theorem dX10_have_24 : decode cX10_have 24 = .ok (.bipush (-2), 2) := by decide +kernel
theorem dX10_have_26 : decode cX10_have 26 = .ok (.ireturn, 1) := by decide +kernel
theorem dX10_hide_0 : decode cX10_hide 0 = .ok (.aload_n 0, 1) := by decide +kernel
theorem dX10_hide_1 : decode cX10_hide 1 = .ok (.iload_n 1, 1) := by decide +kernel
theorem dX10_hide_2 : decode cX10_hide 2 = .ok (.invokevirtual 106, 3) := by decide +kernel
theorem dX10_hide_5 : decode cX10_hide 5 = .ok (.ifCond .eq 15, 3) := by decide +kernel
theorem dX10_hide_20 : decode cX10_hide 20 = .ok (.bipush (-2), 2) := by decide +kernel
theorem dX10_hide_22 : decode cX10_hide 22 = .ok (.ireturn, 1) := by decide +kernel
theorem dX10_seen_0 : decode cX10_seen 0 = .ok (.aload_n 0, 1) := by decide +kernel
theorem dX10_seen_1 : decode cX10_seen 1 = .ok (.iload_n 1, 1) := by decide +kernel
theorem dX10_seen_2 : decode cX10_seen 2 = .ok (.iload_n 2, 1) := by decide +kernel
theorem dX10_seen_3 : decode cX10_seen 3 = .ok (.invokevirtual 289, 3) := by decide +kernel
theorem dX10_seen_6 : decode cX10_seen 6 = .ok (.ifCond .eq 12, 3) := by decide +kernel
theorem dX10_seen_18 : decode cX10_seen 18 = .ok (.bipush (-2), 2) := by decide +kernel
theorem dX10_seen_20 : decode cX10_seen 20 = .ok (.ireturn, 1) := by decide +kernel
theorem dX10_sight_0 : decode cX10_sight 0 = .ok (.aload_n 0, 1) := by decide +kernel
theorem dX10_sight_1 : decode cX10_sight 1 = .ok (.iload_n 1, 1) := by decide +kernel
theorem dX10_sight_2 : decode cX10_sight 2 = .ok (.iload_n 2, 1) := by decide +kernel
theorem dX10_sight_3 : decode cX10_sight 3 = .ok (.invokevirtual 289, 3) := by decide +kernel
theorem dX10_sight_6 : decode cX10_sight 6 = .ok (.ifCond .eq 15, 3) := by decide +kernel
theorem dX10_sight_21 : decode cX10_sight 21 = .ok (.bipush (-2), 2) := by decide +kernel
theorem dX10_sight_23 : decode cX10_sight 23 = .ok (.ireturn, 1) := by decide +kernel
theorem dX10_tops_0 : decode cX10_tops 0 = .ok (.aload_n 0, 1) := by decide +kernel
theorem dX10_tops_1 : decode cX10_tops 1 = .ok (.invokevirtual 295, 3) := by decide +kernel
theorem dX10_tops_4 : decode cX10_tops 4 = .ok (.ifCond .le 10, 3) := by decide +kernel
theorem dX10_tops_14 : decode cX10_tops 14 = .ok (.bipush (-2), 2) := by decide +kernel
theorem dX10_tops_16 : decode cX10_tops 16 = .ok (.ireturn, 1) := by decide +kernel
theorem dX10_next_0 : decode cX10_next 0 = .ok (.aload_n 0, 1) := by decide +kernel
theorem dX10_next_1 : decode cX10_next 1 = .ok (.invokevirtual 295, 3) := by decide +kernel
theorem dX10_next_4 : decode cX10_next 4 = .ok (.ifCond .le 10, 3) := by decide +kernel
theorem dX10_next_14 : decode cX10_next 14 = .ok (.bipush (-2), 2) := by decide +kernel
theorem dX10_next_16 : decode cX10_next 16 = .ok (.ireturn, 1) := by decide +kernel
theorem dX10_loses_0 : decode cX10_loses 0 = .ok (.aload_n 0, 1) := by decide +kernel
theorem dX10_loses_1 : decode cX10_loses 1 = .ok (.iload_n 1, 1) := by decide +kernel
theorem dX10_loses_2 : decode cX10_loses 2 = .ok (.invokevirtual 106, 3) := by decide +kernel
theorem dX10_loses_5 : decode cX10_loses 5 = .ok (.ifCond .eq 11, 3) := by decide +kernel
theorem dX10_loses_16 : decode cX10_loses 16 = .ok (.bipush (-2), 2) := by decide +kernel
theorem dX10_loses_18 : decode cX10_loses 18 = .ok (.ireturn, 1) := by decide +kernel
theorem dX10_stroke_0 : decode cX10_stroke 0 = .ok (.aload_n 0, 1) := by decide +kernel
theorem dX10_stroke_1 : decode cX10_stroke 1 = .ok (.invokevirtual 295, 3) := by decide +kernel
theorem dX10_stroke_4 : decode cX10_stroke 4 = .ok (.ifCond .le 10, 3) := by decide +kernel
theorem dX10_stroke_14 : decode cX10_stroke 14 = .ok (.bipush (-2), 2) := by decide +kernel
theorem dX10_stroke_16 : decode cX10_stroke 16 = .ok (.ireturn, 1) := by decide +kernel
theorem dX10_why_0 : decode cX10_why 0 = .ok (.aload_n 0, 1) := by decide +kernel
theorem dX10_why_1 : decode cX10_why 1 = .ok (.iload_n 1, 1) := by decide +kernel
theorem dX10_why_2 : decode cX10_why 2 = .ok (.invokevirtual 106, 3) := by decide +kernel
theorem dX10_why_5 : decode cX10_why 5 = .ok (.ifCond .eq 50, 3) := by decide +kernel
theorem dX10_why_55 : decode cX10_why 55 = .ok (.iconst 0, 1) := by decide +kernel
theorem dX10_why_56 : decode cX10_why 56 = .ok (.istore 6, 2) := by decide +kernel
theorem dX10_why_58 : decode cX10_why 58 = .ok (.iload 6, 2) := by decide +kernel
theorem dX10_why_60 : decode cX10_why 60 = .ok (.ifCond .ne 8, 3) := by decide +kernel
theorem dX10_why_63 : decode cX10_why 63 = .ok (.bipush (-2), 2) := by decide +kernel
theorem dX10_why_65 : decode cX10_why 65 = .ok (.goto 26, 3) := by decide +kernel
theorem dX10_why_91 : decode cX10_why 91 = .ok (.ireturn, 1) := by decide +kernel
theorem dX10_act_0 : decode cX10_act 0 = .ok (.aload_n 0, 1) := by decide +kernel
theorem dX10_act_1 : decode cX10_act 1 = .ok (.iload_n 1, 1) := by decide +kernel
theorem dX10_act_2 : decode cX10_act 2 = .ok (.iload_n 2, 1) := by decide +kernel
theorem dX10_act_3 : decode cX10_act 3 = .ok (.iload_n 3, 1) := by decide +kernel
theorem dX10_act_4 : decode cX10_act 4 = .ok (.iload 4, 2) := by decide +kernel
theorem dX10_act_6 : decode cX10_act 6 = .ok (.iload 5, 2) := by decide +kernel
theorem dX10_act_8 : decode cX10_act 8 = .ok (.invokevirtual 343, 3) := by decide +kernel
theorem dX10_act_11 : decode cX10_act 11 = .ok (.istore 6, 2) := by decide +kernel
theorem dX10_act_13 : decode cX10_act 13 = .ok (.iload 6, 2) := by decide +kernel
theorem dX10_act_15 : decode cX10_act 15 = .ok (.ifCond .ge 6, 3) := by decide +kernel
theorem dX10_act_18 : decode cX10_act 18 = .ok (.iload 6, 2) := by decide +kernel
theorem dX10_act_20 : decode cX10_act 20 = .ok (.ireturn, 1) := by decide +kernel
theorem dX10_judge_0 : decode cX10_judge 0 = .ok (.iload_n 1, 1) := by decide +kernel
theorem dX10_judge_1 : decode cX10_judge 1 = .ok (.invokestatic 357, 3) := by decide +kernel
theorem dX10_judge_4 : decode cX10_judge 4 = .ok (.ifCond .ne 6, 3) := by decide +kernel
theorem dX10_judge_7 : decode cX10_judge 7 = .ok (.bipush (-2), 2) := by decide +kernel
theorem dX10_judge_9 : decode cX10_judge 9 = .ok (.ireturn, 1) := by decide +kernel
theorem dX10_judge_10 : decode cX10_judge 10 = .ok (.aload_n 0, 1) := by decide +kernel
theorem dX10_judge_11 : decode cX10_judge 11 = .ok (.getfield 80, 3) := by decide +kernel
theorem dX10_judge_14 : decode cX10_judge 14 = .ok (.iload_n 1, 1) := by decide +kernel
theorem dX10_judge_15 : decode cX10_judge 15 = .ok (.iaload, 1) := by decide +kernel
theorem dX10_judge_16 : decode cX10_judge 16 = .ok (.iconst (-1), 1) := by decide +kernel
theorem dX10_judge_17 : decode cX10_judge 17 = .ok (.if_icmp .ne 6, 3) := by decide +kernel
theorem dX10_judge_20 : decode cX10_judge 20 = .ok (.bipush (-6), 2) := by decide +kernel
theorem dX10_judge_22 : decode cX10_judge 22 = .ok (.ireturn, 1) := by decide +kernel
theorem dX10_value_0 : decode cX10_value 0 = .ok (.aload_n 0, 1) := by decide +kernel
theorem dX10_value_1 : decode cX10_value 1 = .ok (.iload_n 1, 1) := by decide +kernel
theorem dX10_value_2 : decode cX10_value 2 = .ok (.iload_n 2, 1) := by decide +kernel
theorem dX10_value_3 : decode cX10_value 3 = .ok (.iload_n 3, 1) := by decide +kernel
theorem dX10_value_4 : decode cX10_value 4 = .ok (.iload 4, 2) := by decide +kernel
theorem dX10_value_6 : decode cX10_value 6 = .ok (.iload 5, 2) := by decide +kernel
theorem dX10_value_8 : decode cX10_value 8 = .ok (.invokevirtual 343, 3) := by decide +kernel
theorem dX10_value_11 : decode cX10_value 11 = .ok (.ifCond .ge 7, 3) := by decide +kernel
theorem dX10_value_14 : decode cX10_value 14 = .ok (.ldc_w 388, 3) := by decide +kernel
theorem dX10_value_17 : decode cX10_value 17 = .ok (.ireturn, 1) := by decide +kernel
theorem dX10_best_0 : decode cX10_best 0 = .ok (.iload_n 2, 1) := by decide +kernel
theorem dX10_best_1 : decode cX10_best 1 = .ok (.i2l, 1) := by decide +kernel
theorem dX10_best_2 : decode cX10_best 2 = .ok (.lconst 0, 1) := by decide +kernel
theorem dX10_best_3 : decode cX10_best 3 = .ok (.ldc2_w 398, 3) := by decide +kernel
theorem dX10_best_6 : decode cX10_best 6 = .ok (.invokestatic 98, 3) := by decide +kernel
theorem dX10_best_9 : decode cX10_best 9 = .ok (.ifCond .ne 6, 3) := by decide +kernel
theorem dX10_best_12 : decode cX10_best 12 = .ok (.bipush (-2), 2) := by decide +kernel
theorem dX10_best_14 : decode cX10_best 14 = .ok (.ireturn, 1) := by decide +kernel
theorem dX10_best_15 : decode cX10_best 15 = .ok (.aload_n 0, 1) := by decide +kernel
theorem dX10_best_16 : decode cX10_best 16 = .ok (.iload_n 1, 1) := by decide +kernel
theorem dX10_best_17 : decode cX10_best 17 = .ok (.invokevirtual 106, 3) := by decide +kernel
theorem dX10_best_20 : decode cX10_best 20 = .ok (.ifCond .ne 16, 3) := by decide +kernel
theorem dX10_best_23 : decode cX10_best 23 = .ok (.iload_n 2, 1) := by decide +kernel
theorem dX10_best_24 : decode cX10_best 24 = .ok (.ifCond .ne 9, 3) := by decide +kernel
theorem dX10_best_27 : decode cX10_best 27 = .ok (.ldc_w 388, 3) := by decide +kernel
theorem dX10_best_30 : decode cX10_best 30 = .ok (.goto 5, 3) := by decide +kernel
theorem dX10_best_33 : decode cX10_best 33 = .ok (.bipush (-2), 2) := by decide +kernel
theorem dX10_best_35 : decode cX10_best 35 = .ok (.ireturn, 1) := by decide +kernel
theorem dX10_gift_0 : decode cX10_gift 0 = .ok (.aload_n 0, 1) := by decide +kernel
theorem dX10_gift_1 : decode cX10_gift 1 = .ok (.iload_n 1, 1) := by decide +kernel
theorem dX10_gift_2 : decode cX10_gift 2 = .ok (.iload_n 2, 1) := by decide +kernel
theorem dX10_gift_3 : decode cX10_gift 3 = .ok (.invokevirtual 289, 3) := by decide +kernel
theorem dX10_gift_6 : decode cX10_gift 6 = .ok (.ifCond .eq 12, 3) := by decide +kernel
theorem dX10_gift_18 : decode cX10_gift 18 = .ok (.bipush (-2), 2) := by decide +kernel
theorem dX10_gift_20 : decode cX10_gift 20 = .ok (.ireturn, 1) := by decide +kernel
theorem dX10_gifts_0 : decode cX10_gifts 0 = .ok (.aload_n 0, 1) := by decide +kernel
theorem dX10_gifts_1 : decode cX10_gifts 1 = .ok (.iload_n 1, 1) := by decide +kernel
theorem dX10_gifts_2 : decode cX10_gifts 2 = .ok (.invokevirtual 106, 3) := by decide +kernel
theorem dX10_gifts_5 : decode cX10_gifts 5 = .ok (.ifCond .ne 6, 3) := by decide +kernel
theorem dX10_gifts_8 : decode cX10_gifts 8 = .ok (.bipush (-2), 2) := by decide +kernel
theorem dX10_gifts_10 : decode cX10_gifts 10 = .ok (.ireturn, 1) := by decide +kernel
theorem dX10_breaks_0 : decode cX10_breaks 0 = .ok (.aload_n 0, 1) := by decide +kernel
theorem dX10_breaks_1 : decode cX10_breaks 1 = .ok (.iload_n 1, 1) := by decide +kernel
theorem dX10_breaks_2 : decode cX10_breaks 2 = .ok (.iload_n 2, 1) := by decide +kernel
theorem dX10_breaks_3 : decode cX10_breaks 3 = .ok (.invokevirtual 289, 3) := by decide +kernel
theorem dX10_breaks_6 : decode cX10_breaks 6 = .ok (.ifCond .eq 12, 3) := by decide +kernel
theorem dX10_breaks_18 : decode cX10_breaks 18 = .ok (.bipush (-2), 2) := by decide +kernel
theorem dX10_breaks_20 : decode cX10_breaks 20 = .ok (.ireturn, 1) := by decide +kernel
theorem dX10_third_0 : decode cX10_third 0 = .ok (.aload_n 0, 1) := by decide +kernel
theorem dX10_third_1 : decode cX10_third 1 = .ok (.iload_n 1, 1) := by decide +kernel
theorem dX10_third_2 : decode cX10_third 2 = .ok (.invokevirtual 106, 3) := by decide +kernel
theorem dX10_third_5 : decode cX10_third 5 = .ok (.ifCond .ne 6, 3) := by decide +kernel
theorem dX10_third_8 : decode cX10_third 8 = .ok (.bipush (-2), 2) := by decide +kernel
theorem dX10_third_10 : decode cX10_third 10 = .ok (.ireturn, 1) := by decide +kernel
theorem dX10_restless_0 : decode cX10_restless 0 = .ok (.aload_n 0, 1) := by decide +kernel
theorem dX10_restless_1 : decode cX10_restless 1 = .ok (.invokevirtual 295, 3) := by decide +kernel
theorem dX10_restless_4 : decode cX10_restless 4 = .ok (.ifCond .le 10, 3) := by decide +kernel
theorem dX10_restless_14 : decode cX10_restless 14 = .ok (.bipush (-2), 2) := by decide +kernel
theorem dX10_restless_16 : decode cX10_restless 16 = .ok (.ireturn, 1) := by decide +kernel
theorem dX10_rests_0 : decode cX10_rests 0 = .ok (.iload_n 1, 1) := by decide +kernel
theorem dX10_rests_1 : decode cX10_rests 1 = .ok (.i2l, 1) := by decide +kernel
theorem dX10_rests_2 : decode cX10_rests 2 = .ok (.lconst 1, 1) := by decide +kernel
theorem dX10_rests_3 : decode cX10_rests 3 = .ok (.ldc2_w 419, 3) := by decide +kernel
theorem dX10_rests_6 : decode cX10_rests 6 = .ok (.invokestatic 98, 3) := by decide +kernel
theorem dX10_rests_9 : decode cX10_rests 9 = .ok (.ifCond .eq 28, 3) := by decide +kernel
theorem dX10_rests_12 : decode cX10_rests 12 = .ok (.iload_n 1, 1) := by decide +kernel
theorem dX10_rests_13 : decode cX10_rests 13 = .ok (.aload_n 0, 1) := by decide +kernel
theorem dX10_rests_14 : decode cX10_rests 14 = .ok (.getfield 13, 3) := by decide +kernel
theorem dX10_rests_17 : decode cX10_rests 17 = .ok (.iconst 1, 1) := by decide +kernel
theorem dX10_rests_18 : decode cX10_rests 18 = .ok (.iaload, 1) := by decide +kernel
theorem dX10_rests_19 : decode cX10_rests 19 = .ok (.if_icmp .gt 18, 3) := by decide +kernel
theorem dX10_rests_37 : decode cX10_rests 37 = .ok (.bipush (-2), 2) := by decide +kernel
theorem dX10_rests_39 : decode cX10_rests 39 = .ok (.ireturn, 1) := by decide +kernel
theorem dX10_isRun_0 : decode cX10_isRun 0 = .ok (.aload_n 0, 1) := by decide +kernel
theorem dX10_isRun_1 : decode cX10_isRun 1 = .ok (.invokevirtual 295, 3) := by decide +kernel
theorem dX10_isRun_4 : decode cX10_isRun 4 = .ok (.ifCond .le 19, 3) := by decide +kernel
theorem dX10_isRun_23 : decode cX10_isRun 23 = .ok (.iconst 0, 1) := by decide +kernel
theorem dX10_isRun_24 : decode cX10_isRun 24 = .ok (.ireturn, 1) := by decide +kernel
theorem dX10_run_0 : decode cX10_run 0 = .ok (.aload_n 0, 1) := by decide +kernel
theorem dX10_run_1 : decode cX10_run 1 = .ok (.iload_n 1, 1) := by decide +kernel
theorem dX10_run_2 : decode cX10_run 2 = .ok (.invokevirtual 439, 3) := by decide +kernel
theorem dX10_run_5 : decode cX10_run 5 = .ok (.ifCond .eq 11, 3) := by decide +kernel
theorem dX10_run_16 : decode cX10_run 16 = .ok (.bipush (-2), 2) := by decide +kernel
theorem dX10_run_18 : decode cX10_run 18 = .ok (.ireturn, 1) := by decide +kernel
theorem dX10_isWay_0 : decode cX10_isWay 0 = .ok (.aload_n 0, 1) := by decide +kernel
theorem dX10_isWay_1 : decode cX10_isWay 1 = .ok (.iload_n 1, 1) := by decide +kernel
theorem dX10_isWay_2 : decode cX10_isWay 2 = .ok (.invokevirtual 106, 3) := by decide +kernel
theorem dX10_isWay_5 : decode cX10_isWay 5 = .ok (.ifCond .eq 19, 3) := by decide +kernel
theorem dX10_isWay_24 : decode cX10_isWay 24 = .ok (.iconst 0, 1) := by decide +kernel
theorem dX10_isWay_25 : decode cX10_isWay 25 = .ok (.ireturn, 1) := by decide +kernel
theorem dX10_total_0 : decode cX10_total 0 = .ok (.aload_n 0, 1) := by decide +kernel
theorem dX10_total_1 : decode cX10_total 1 = .ok (.iload_n 1, 1) := by decide +kernel
theorem dX10_total_2 : decode cX10_total 2 = .ok (.iload_n 2, 1) := by decide +kernel
theorem dX10_total_3 : decode cX10_total 3 = .ok (.invokevirtual 450, 3) := by decide +kernel
theorem dX10_total_6 : decode cX10_total 6 = .ok (.ifCond .eq 25, 3) := by decide +kernel
theorem dX10_total_31 : decode cX10_total 31 = .ok (.ldc_w 388, 3) := by decide +kernel
theorem dX10_total_34 : decode cX10_total 34 = .ok (.ireturn, 1) := by decide +kernel
theorem dX10_way_0 : decode cX10_way 0 = .ok (.aload_n 0, 1) := by decide +kernel
theorem dX10_way_1 : decode cX10_way 1 = .ok (.iload_n 1, 1) := by decide +kernel
theorem dX10_way_2 : decode cX10_way 2 = .ok (.invokevirtual 106, 3) := by decide +kernel
theorem dX10_way_5 : decode cX10_way 5 = .ok (.ifCond .eq 15, 3) := by decide +kernel
theorem dX10_way_20 : decode cX10_way 20 = .ok (.bipush (-2), 2) := by decide +kernel
theorem dX10_way_22 : decode cX10_way 22 = .ok (.ireturn, 1) := by decide +kernel
theorem dX10_turnsTo_0 : decode cX10_turnsTo 0 = .ok (.aload_n 0, 1) := by decide +kernel
theorem dX10_turnsTo_1 : decode cX10_turnsTo 1 = .ok (.iload_n 1, 1) := by decide +kernel
theorem dX10_turnsTo_2 : decode cX10_turnsTo 2 = .ok (.iload_n 2, 1) := by decide +kernel
theorem dX10_turnsTo_3 : decode cX10_turnsTo 3 = .ok (.invokevirtual 450, 3) := by decide +kernel
theorem dX10_turnsTo_6 : decode cX10_turnsTo 6 = .ok (.ifCond .ne 6, 3) := by decide +kernel
theorem dX10_turnsTo_9 : decode cX10_turnsTo 9 = .ok (.bipush (-2), 2) := by decide +kernel
theorem dX10_turnsTo_11 : decode cX10_turnsTo 11 = .ok (.ireturn, 1) := by decide +kernel
theorem dX10_idle_0 : decode cX10_idle 0 = .ok (.aload_n 0, 1) := by decide +kernel
theorem dX10_idle_1 : decode cX10_idle 1 = .ok (.iload_n 1, 1) := by decide +kernel
theorem dX10_idle_2 : decode cX10_idle 2 = .ok (.invokevirtual 439, 3) := by decide +kernel
theorem dX10_idle_5 : decode cX10_idle 5 = .ok (.ifCond .ne 6, 3) := by decide +kernel
theorem dX10_idle_8 : decode cX10_idle 8 = .ok (.bipush (-2), 2) := by decide +kernel
theorem dX10_idle_10 : decode cX10_idle 10 = .ok (.ireturn, 1) := by decide +kernel
theorem dX10_spreadOf_0 : decode cX10_spreadOf 0 = .ok (.iconst 0, 1) := by decide +kernel
theorem dX10_spreadOf_1 : decode cX10_spreadOf 1 = .ok (.istore_n 1, 1) := by decide +kernel
theorem dX10_spreadOf_2 : decode cX10_spreadOf 2 = .ok (.iconst 0, 1) := by decide +kernel
theorem dX10_spreadOf_3 : decode cX10_spreadOf 3 = .ok (.istore_n 2, 1) := by decide +kernel
theorem dX10_spreadOf_4 : decode cX10_spreadOf 4 = .ok (.iload_n 2, 1) := by decide +kernel
theorem dX10_spreadOf_5 : decode cX10_spreadOf 5 = .ok (.aload_n 0, 1) := by decide +kernel
theorem dX10_spreadOf_6 : decode cX10_spreadOf 6 = .ok (.invokevirtual 295, 3) := by decide +kernel
theorem dX10_spreadOf_9 : decode cX10_spreadOf 9 = .ok (.if_icmp .ge 41, 3) := by decide +kernel
theorem dX10_spreadOf_50 : decode cX10_spreadOf 50 = .ok (.iload_n 1, 1) := by decide +kernel
theorem dX10_spreadOf_51 : decode cX10_spreadOf 51 = .ok (.ireturn, 1) := by decide +kernel
theorem dX10_spread_0 : decode cX10_spread 0 = .ok (.aload_n 0, 1) := by decide +kernel
theorem dX10_spread_1 : decode cX10_spread 1 = .ok (.invokevirtual 460, 3) := by decide +kernel
theorem dX10_spread_4 : decode cX10_spread 4 = .ok (.ireturn, 1) := by decide +kernel
theorem dX10_beside_0 : decode cX10_beside 0 = .ok (.aload_n 0, 1) := by decide +kernel
theorem dX10_beside_1 : decode cX10_beside 1 = .ok (.iload_n 1, 1) := by decide +kernel
theorem dX10_beside_2 : decode cX10_beside 2 = .ok (.invokevirtual 439, 3) := by decide +kernel
theorem dX10_beside_5 : decode cX10_beside 5 = .ok (.ifCond .eq 15, 3) := by decide +kernel
theorem dX10_beside_20 : decode cX10_beside 20 = .ok (.ldc_w 388, 3) := by decide +kernel
theorem dX10_beside_23 : decode cX10_beside 23 = .ok (.ireturn, 1) := by decide +kernel
theorem dX10_law_0 : decode cX10_law 0 = .ok (.aload_n 0, 1) := by decide +kernel
theorem dX10_law_1 : decode cX10_law 1 = .ok (.getfield 13, 3) := by decide +kernel
theorem dX10_law_4 : decode cX10_law 4 = .ok (.iconst 1, 1) := by decide +kernel
theorem dX10_law_5 : decode cX10_law 5 = .ok (.iaload, 1) := by decide +kernel
theorem dX10_law_6 : decode cX10_law 6 = .ok (.ifCond .eq 41, 3) := by decide +kernel
theorem dX10_law_47 : decode cX10_law 47 = .ok (.bipush (-2), 2) := by decide +kernel
theorem dX10_law_49 : decode cX10_law 49 = .ok (.ireturn, 1) := by decide +kernel
theorem dX10_laws_0 : decode cX10_laws 0 = .ok (.aload_n 0, 1) := by decide +kernel
theorem dX10_laws_1 : decode cX10_laws 1 = .ok (.iload_n 1, 1) := by decide +kernel
theorem dX10_laws_2 : decode cX10_laws 2 = .ok (.invokevirtual 439, 3) := by decide +kernel
theorem dX10_laws_5 : decode cX10_laws 5 = .ok (.ifCond .ne 6, 3) := by decide +kernel
theorem dX10_laws_8 : decode cX10_laws 8 = .ok (.bipush (-2), 2) := by decide +kernel
theorem dX10_laws_10 : decode cX10_laws 10 = .ok (.ireturn, 1) := by decide +kernel
theorem dX10_leaves_0 : decode cX10_leaves 0 = .ok (.aload_n 0, 1) := by decide +kernel
theorem dX10_leaves_1 : decode cX10_leaves 1 = .ok (.iload_n 1, 1) := by decide +kernel
theorem dX10_leaves_2 : decode cX10_leaves 2 = .ok (.iload_n 2, 1) := by decide +kernel
theorem dX10_leaves_3 : decode cX10_leaves 3 = .ok (.invokevirtual 289, 3) := by decide +kernel
theorem dX10_leaves_6 : decode cX10_leaves 6 = .ok (.ifCond .ne 6, 3) := by decide +kernel
theorem dX10_leaves_9 : decode cX10_leaves 9 = .ok (.bipush (-2), 2) := by decide +kernel
theorem dX10_leaves_11 : decode cX10_leaves 11 = .ok (.ireturn, 1) := by decide +kernel
theorem dX10_know_0 : decode cX10_know 0 = .ok (.aload_n 0, 1) := by decide +kernel
theorem dX10_know_1 : decode cX10_know 1 = .ok (.iload_n 1, 1) := by decide +kernel
theorem dX10_know_2 : decode cX10_know 2 = .ok (.invokevirtual 106, 3) := by decide +kernel
theorem dX10_know_5 : decode cX10_know 5 = .ok (.ifCond .ne 7, 3) := by decide +kernel
theorem dX10_know_8 : decode cX10_know 8 = .ok (.ldc_w 388, 3) := by decide +kernel
theorem dX10_know_11 : decode cX10_know 11 = .ok (.ireturn, 1) := by decide +kernel
theorem dX10_knows_0 : decode cX10_knows 0 = .ok (.aload_n 0, 1) := by decide +kernel
theorem dX10_knows_1 : decode cX10_knows 1 = .ok (.iload_n 1, 1) := by decide +kernel
theorem dX10_knows_2 : decode cX10_knows 2 = .ok (.iload_n 2, 1) := by decide +kernel
theorem dX10_knows_3 : decode cX10_knows 3 = .ok (.invokevirtual 289, 3) := by decide +kernel
theorem dX10_knows_6 : decode cX10_knows 6 = .ok (.ifCond .ne 7, 3) := by decide +kernel
theorem dX10_knows_9 : decode cX10_knows 9 = .ok (.ldc_w 388, 3) := by decide +kernel
theorem dX10_knows_12 : decode cX10_knows 12 = .ok (.ireturn, 1) := by decide +kernel
theorem dX10_lend_0 : decode cX10_lend 0 = .ok (.aload_n 0, 1) := by decide +kernel
theorem dX10_lend_1 : decode cX10_lend 1 = .ok (.iload_n 1, 1) := by decide +kernel
theorem dX10_lend_2 : decode cX10_lend 2 = .ok (.iload_n 2, 1) := by decide +kernel
theorem dX10_lend_3 : decode cX10_lend 3 = .ok (.invokevirtual 289, 3) := by decide +kernel
theorem dX10_lend_6 : decode cX10_lend 6 = .ok (.ifCond .eq 15, 3) := by decide +kernel
theorem dX10_lend_21 : decode cX10_lend 21 = .ok (.bipush (-2), 2) := by decide +kernel
theorem dX10_lend_23 : decode cX10_lend 23 = .ok (.ireturn, 1) := by decide +kernel
theorem dX10_round_0 : decode cX10_round 0 = .ok (.aload_n 0, 1) := by decide +kernel
theorem dX10_round_1 : decode cX10_round 1 = .ok (.iload_n 1, 1) := by decide +kernel
theorem dX10_round_2 : decode cX10_round 2 = .ok (.iload_n 2, 1) := by decide +kernel
theorem dX10_round_3 : decode cX10_round 3 = .ok (.invokevirtual 289, 3) := by decide +kernel
theorem dX10_round_6 : decode cX10_round 6 = .ok (.ifCond .ne 6, 3) := by decide +kernel
theorem dX10_round_9 : decode cX10_round 9 = .ok (.bipush (-2), 2) := by decide +kernel
theorem dX10_round_11 : decode cX10_round 11 = .ok (.ireturn, 1) := by decide +kernel
theorem dX10_canHide_0 : decode cX10_canHide 0 = .ok (.aload_n 0, 1) := by decide +kernel
theorem dX10_canHide_1 : decode cX10_canHide 1 = .ok (.iload_n 1, 1) := by decide +kernel
theorem dX10_canHide_2 : decode cX10_canHide 2 = .ok (.invokevirtual 106, 3) := by decide +kernel
theorem dX10_canHide_5 : decode cX10_canHide 5 = .ok (.ifCond .eq 23, 3) := by decide +kernel
theorem dX10_canHide_28 : decode cX10_canHide 28 = .ok (.iconst 0, 1) := by decide +kernel
theorem dX10_canHide_29 : decode cX10_canHide 29 = .ok (.ireturn, 1) := by decide +kernel
theorem dX10_hides_0 : decode cX10_hides 0 = .ok (.aload_n 0, 1) := by decide +kernel
theorem dX10_hides_1 : decode cX10_hides 1 = .ok (.iload_n 1, 1) := by decide +kernel
theorem dX10_hides_2 : decode cX10_hides 2 = .ok (.iload_n 2, 1) := by decide +kernel
theorem dX10_hides_3 : decode cX10_hides 3 = .ok (.invokevirtual 482, 3) := by decide +kernel
theorem dX10_hides_6 : decode cX10_hides 6 = .ok (.ifCond .eq 19, 3) := by decide +kernel
theorem dX10_hides_25 : decode cX10_hides 25 = .ok (.ldc_w 388, 3) := by decide +kernel
theorem dX10_hides_28 : decode cX10_hides 28 = .ok (.ireturn, 1) := by decide +kernel
theorem dX10_edge_0 : decode cX10_edge 0 = .ok (.aload_n 0, 1) := by decide +kernel
theorem dX10_edge_1 : decode cX10_edge 1 = .ok (.iload_n 1, 1) := by decide +kernel
theorem dX10_edge_2 : decode cX10_edge 2 = .ok (.iload_n 2, 1) := by decide +kernel
theorem dX10_edge_3 : decode cX10_edge 3 = .ok (.invokevirtual 482, 3) := by decide +kernel
theorem dX10_edge_6 : decode cX10_edge 6 = .ok (.ifCond .ne 6, 3) := by decide +kernel
theorem dX10_edge_9 : decode cX10_edge 9 = .ok (.bipush (-2), 2) := by decide +kernel
theorem dX10_edge_11 : decode cX10_edge 11 = .ok (.ireturn, 1) := by decide +kernel
theorem dX10_pays_0 : decode cX10_pays 0 = .ok (.aload_n 0, 1) := by decide +kernel
theorem dX10_pays_1 : decode cX10_pays 1 = .ok (.iload_n 1, 1) := by decide +kernel
theorem dX10_pays_2 : decode cX10_pays 2 = .ok (.invokevirtual 106, 3) := by decide +kernel
theorem dX10_pays_5 : decode cX10_pays 5 = .ok (.ifCond .eq 15, 3) := by decide +kernel
theorem dX10_pays_20 : decode cX10_pays 20 = .ok (.bipush (-2), 2) := by decide +kernel
theorem dX10_pays_22 : decode cX10_pays 22 = .ok (.ireturn, 1) := by decide +kernel
theorem dX10_quiet_0 : decode cX10_quiet 0 = .ok (.aload_n 0, 1) := by decide +kernel
theorem dX10_quiet_1 : decode cX10_quiet 1 = .ok (.iload_n 1, 1) := by decide +kernel
theorem dX10_quiet_2 : decode cX10_quiet 2 = .ok (.invokevirtual 439, 3) := by decide +kernel
theorem dX10_quiet_5 : decode cX10_quiet 5 = .ok (.ifCond .eq 13, 3) := by decide +kernel
theorem dX10_quiet_18 : decode cX10_quiet 18 = .ok (.bipush (-2), 2) := by decide +kernel
theorem dX10_quiet_20 : decode cX10_quiet 20 = .ok (.ireturn, 1) := by decide +kernel
theorem dX10_again_0 : decode cX10_again 0 = .ok (.aload_n 0, 1) := by decide +kernel
theorem dX10_again_1 : decode cX10_again 1 = .ok (.iload_n 1, 1) := by decide +kernel
theorem dX10_again_2 : decode cX10_again 2 = .ok (.invokevirtual 439, 3) := by decide +kernel
theorem dX10_again_5 : decode cX10_again 5 = .ok (.ifCond .ne 6, 3) := by decide +kernel
theorem dX10_again_8 : decode cX10_again 8 = .ok (.bipush (-2), 2) := by decide +kernel
theorem dX10_again_10 : decode cX10_again 10 = .ok (.ireturn, 1) := by decide +kernel
theorem dX10_alike_0 : decode cX10_alike 0 = .ok (.aload_n 0, 1) := by decide +kernel
theorem dX10_alike_1 : decode cX10_alike 1 = .ok (.iload_n 1, 1) := by decide +kernel
theorem dX10_alike_2 : decode cX10_alike 2 = .ok (.invokevirtual 439, 3) := by decide +kernel
theorem dX10_alike_5 : decode cX10_alike 5 = .ok (.ifCond .ne 6, 3) := by decide +kernel
theorem dX10_alike_8 : decode cX10_alike 8 = .ok (.bipush (-2), 2) := by decide +kernel
theorem dX10_alike_10 : decode cX10_alike 10 = .ok (.ireturn, 1) := by decide +kernel
theorem dX10_follows_0 : decode cX10_follows 0 = .ok (.aload_n 0, 1) := by decide +kernel
theorem dX10_follows_1 : decode cX10_follows 1 = .ok (.iload_n 1, 1) := by decide +kernel
theorem dX10_follows_2 : decode cX10_follows 2 = .ok (.invokevirtual 106, 3) := by decide +kernel
theorem dX10_follows_5 : decode cX10_follows 5 = .ok (.ifCond .eq 37, 3) := by decide +kernel
theorem dX10_follows_42 : decode cX10_follows 42 = .ok (.ldc_w 388, 3) := by decide +kernel
theorem dX10_follows_45 : decode cX10_follows 45 = .ok (.ireturn, 1) := by decide +kernel
theorem dX10_plan_0 : decode cX10_plan 0 = .ok (.aload_n 0, 1) := by decide +kernel
theorem dX10_plan_1 : decode cX10_plan 1 = .ok (.iload_n 1, 1) := by decide +kernel
theorem dX10_plan_2 : decode cX10_plan 2 = .ok (.invokevirtual 106, 3) := by decide +kernel
theorem dX10_plan_5 : decode cX10_plan 5 = .ok (.ifCond .eq 26, 3) := by decide +kernel
theorem dX10_plan_31 : decode cX10_plan 31 = .ok (.ldc_w 388, 3) := by decide +kernel
theorem dX10_plan_34 : decode cX10_plan 34 = .ok (.ireturn, 1) := by decide +kernel
theorem dX10_open_0 : decode cX10_open 0 = .ok (.aload_n 0, 1) := by decide +kernel
theorem dX10_open_1 : decode cX10_open 1 = .ok (.invokevirtual 295, 3) := by decide +kernel
theorem dX10_open_4 : decode cX10_open 4 = .ok (.ifCond .ne 6, 3) := by decide +kernel
theorem dX10_open_7 : decode cX10_open 7 = .ok (.bipush (-2), 2) := by decide +kernel
theorem dX10_open_9 : decode cX10_open 9 = .ok (.ireturn, 1) := by decide +kernel
theorem dX10_duel_0 : decode cX10_duel 0 = .ok (.aload_n 0, 1) := by decide +kernel
theorem dX10_duel_1 : decode cX10_duel 1 = .ok (.iload_n 1, 1) := by decide +kernel
theorem dX10_duel_2 : decode cX10_duel 2 = .ok (.iload_n 2, 1) := by decide +kernel
theorem dX10_duel_3 : decode cX10_duel 3 = .ok (.invokevirtual 289, 3) := by decide +kernel
theorem dX10_duel_6 : decode cX10_duel 6 = .ok (.ifCond .ne 6, 3) := by decide +kernel
theorem dX10_duel_9 : decode cX10_duel 9 = .ok (.bipush (-2), 2) := by decide +kernel
theorem dX10_duel_11 : decode cX10_duel 11 = .ok (.ireturn, 1) := by decide +kernel
theorem dX10_mixed_0 : decode cX10_mixed 0 = .ok (.aload_n 0, 1) := by decide +kernel
theorem dX10_mixed_1 : decode cX10_mixed 1 = .ok (.iload_n 1, 1) := by decide +kernel
theorem dX10_mixed_2 : decode cX10_mixed 2 = .ok (.iload_n 2, 1) := by decide +kernel
theorem dX10_mixed_3 : decode cX10_mixed 3 = .ok (.invokevirtual 289, 3) := by decide +kernel
theorem dX10_mixed_6 : decode cX10_mixed 6 = .ok (.ifCond .ne 6, 3) := by decide +kernel
theorem dX10_mixed_9 : decode cX10_mixed 9 = .ok (.bipush (-2), 2) := by decide +kernel
theorem dX10_mixed_11 : decode cX10_mixed 11 = .ok (.ireturn, 1) := by decide +kernel
theorem dX10_seed_0 : decode cX10_seed 0 = .ok (.iload_n 1, 1) := by decide +kernel
theorem dX10_seed_1 : decode cX10_seed 1 = .ok (.i2l, 1) := by decide +kernel
theorem dX10_seed_2 : decode cX10_seed 2 = .ok (.lconst 0, 1) := by decide +kernel
theorem dX10_seed_3 : decode cX10_seed 3 = .ok (.ldc2_w 502, 3) := by decide +kernel
theorem dX10_seed_6 : decode cX10_seed 6 = .ok (.invokestatic 98, 3) := by decide +kernel
theorem dX10_seed_9 : decode cX10_seed 9 = .ok (.ifCond .ne 6, 3) := by decide +kernel
theorem dX10_seed_12 : decode cX10_seed 12 = .ok (.bipush (-2), 2) := by decide +kernel
theorem dX10_seed_14 : decode cX10_seed 14 = .ok (.ireturn, 1) := by decide +kernel
theorem dX10_seed_15 : decode cX10_seed 15 = .ok (.aload_n 0, 1) := by decide +kernel
theorem dX10_seed_16 : decode cX10_seed 16 = .ok (.iload_n 1, 1) := by decide +kernel
theorem dX10_seed_17 : decode cX10_seed 17 = .ok (.i2l, 1) := by decide +kernel
theorem dX10_seed_18 : decode cX10_seed 18 = .ok (.putfield 102, 3) := by decide +kernel
theorem dX10_seed_21 : decode cX10_seed 21 = .ok (.iconst 0, 1) := by decide +kernel
theorem dX10_seed_22 : decode cX10_seed 22 = .ok (.ireturn, 1) := by decide +kernel
theorem dX10_count_0 : decode cX10_count 0 = .ok (.iconst 0, 1) := by decide +kernel
theorem dX10_count_1 : decode cX10_count 1 = .ok (.istore_n 2, 1) := by decide +kernel
theorem dX10_count_2 : decode cX10_count 2 = .ok (.iload_n 1, 1) := by decide +kernel
theorem dX10_count_3 : decode cX10_count 3 = .ok (.tableswitch 185 0 12 #[65, 72, 80, 87, 92, 100, 108, 116, 123, 130, 137, 144, 152], 65) := by decide +kernel
theorem dX10_count_68 : decode cX10_count 68 = .ok (.aload_n 0, 1) := by decide +kernel
theorem dX10_count_69 : decode cX10_count 69 = .ok (.getfield 13, 3) := by decide +kernel
theorem dX10_count_72 : decode cX10_count 72 = .ok (.iconst 1, 1) := by decide +kernel
theorem dX10_count_73 : decode cX10_count 73 = .ok (.iaload, 1) := by decide +kernel
theorem dX10_count_74 : decode cX10_count 74 = .ok (.ireturn, 1) := by decide +kernel
theorem dX10_count_75 : decode cX10_count 75 = .ok (.aload_n 0, 1) := by decide +kernel
theorem dX10_count_76 : decode cX10_count 76 = .ok (.getfield 13, 3) := by decide +kernel
theorem dX10_count_79 : decode cX10_count 79 = .ok (.bipush 7, 2) := by decide +kernel
theorem dX10_count_81 : decode cX10_count 81 = .ok (.iaload, 1) := by decide +kernel
theorem dX10_count_82 : decode cX10_count 82 = .ok (.ireturn, 1) := by decide +kernel
theorem dX10_count_83 : decode cX10_count 83 = .ok (.aload_n 0, 1) := by decide +kernel
theorem dX10_count_84 : decode cX10_count 84 = .ok (.getfield 13, 3) := by decide +kernel
theorem dX10_count_87 : decode cX10_count 87 = .ok (.iconst 0, 1) := by decide +kernel
theorem dX10_count_88 : decode cX10_count 88 = .ok (.iaload, 1) := by decide +kernel
theorem dX10_count_89 : decode cX10_count 89 = .ok (.ireturn, 1) := by decide +kernel
theorem dX10_count_90 : decode cX10_count 90 = .ok (.aload_n 0, 1) := by decide +kernel
theorem dX10_count_91 : decode cX10_count 91 = .ok (.getfield 110, 3) := by decide +kernel
theorem dX10_count_94 : decode cX10_count 94 = .ok (.ireturn, 1) := by decide +kernel
theorem dX10_count_95 : decode cX10_count 95 = .ok (.aload_n 0, 1) := by decide +kernel
theorem dX10_count_96 : decode cX10_count 96 = .ok (.getfield 13, 3) := by decide +kernel
theorem dX10_count_99 : decode cX10_count 99 = .ok (.bipush 10, 2) := by decide +kernel
theorem dX10_count_101 : decode cX10_count 101 = .ok (.iaload, 1) := by decide +kernel
theorem dX10_count_102 : decode cX10_count 102 = .ok (.ireturn, 1) := by decide +kernel
theorem dX10_count_103 : decode cX10_count 103 = .ok (.aload_n 0, 1) := by decide +kernel
theorem dX10_count_104 : decode cX10_count 104 = .ok (.getfield 13, 3) := by decide +kernel
theorem dX10_count_107 : decode cX10_count 107 = .ok (.bipush 9, 2) := by decide +kernel
theorem dX10_count_109 : decode cX10_count 109 = .ok (.iaload, 1) := by decide +kernel
