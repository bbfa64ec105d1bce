theorem dX9_init_161 : decode cX9_init 161 = .ok (.if_icmp .ge 22, 3) := by decide +kernel
theorem dX9_init_164 : decode cX9_init 164 = .ok (.aload_n 0, 1) := by decide +kernel
theorem dX9_init_165 : decode cX9_init 165 = .ok (.getfield 36, 3) := by decide +kernel
theorem dX9_init_168 : decode cX9_init 168 = .ok (.iload_n 1, 1) := by decide +kernel
theorem dX9_init_169 : decode cX9_init 169 = .ok (.new 34, 3) := by decide +kernel
theorem dX9_init_172 : decode cX9_init 172 = .ok (.dup, 1) := by decide +kernel
theorem dX9_init_173 : decode cX9_init 173 = .ok (.invokespecial 68, 3) := by decide +kernel
theorem dX9_init_176 : decode cX9_init 176 = .ok (.aastore, 1) := by decide +kernel
theorem dX9_init_177 : decode cX9_init 177 = .ok (.iinc 1 1, 3) := by decide +kernel
theorem dX9_init_180 : decode cX9_init 180 = .ok (.goto (-21), 3) := by decide +kernel
theorem dX9_init_183 : decode cX9_init 183 = .ok (.return_, 1) := by decide +kernel
theorem dX9_end_0 : decode cX9_end 0 = .ok (.iload_n 1, 1) := by decide +kernel
theorem dX9_end_1 : decode cX9_end 1 = .ok (.ifCond .lt 14, 3) := by decide +kernel
theorem dX9_end_4 : decode cX9_end 4 = .ok (.iload_n 1, 1) := by decide +kernel
theorem dX9_end_5 : decode cX9_end 5 = .ok (.aload_n 0, 1) := by decide +kernel
theorem dX9_end_6 : decode cX9_end 6 = .ok (.getfield 10, 3) := by decide +kernel
theorem dX9_end_9 : decode cX9_end 9 = .ok (.getfield 69, 3) := by decide +kernel
theorem dX9_end_12 : decode cX9_end 12 = .ok (.if_icmp .le 5, 3) := by decide +kernel
theorem dX9_end_15 : decode cX9_end 15 = .ok (.iconst (-1), 1) := by decide +kernel
theorem dX9_end_16 : decode cX9_end 16 = .ok (.ireturn, 1) := by decide +kernel
theorem dX9_end_17 : decode cX9_end 17 = .ok (.aload_n 0, 1) := by decide +kernel
theorem dX9_end_18 : decode cX9_end 18 = .ok (.getfield 10, 3) := by decide +kernel
theorem dX9_end_21 : decode cX9_end 21 = .ok (.iload_n 1, 1) := by decide +kernel
theorem dX9_end_22 : decode cX9_end 22 = .ok (.putfield 69, 3) := by decide +kernel
theorem dX9_end_25 : decode cX9_end 25 = .ok (.iload_n 1, 1) := by decide +kernel
theorem dX9_end_26 : decode cX9_end 26 = .ok (.ireturn, 1) := by decide +kernel
theorem dX9_town_0 : decode cX9_town 0 = .ok (.aload_n 0, 1) := by decide +kernel
theorem dX9_town_1 : decode cX9_town 1 = .ok (.getfield 10, 3) := by decide +kernel
theorem dX9_town_4 : decode cX9_town 4 = .ok (.invokevirtual 77, 3) := by decide +kernel
theorem dX9_town_7 : decode cX9_town 7 = .ok (.ifCond .ne 6, 3) := by decide +kernel
theorem dX9_town_13 : decode cX9_town 13 = .ok (.aload_n 0, 1) := by decide +kernel
theorem dX9_town_14 : decode cX9_town 14 = .ok (.getfield 19, 3) := by decide +kernel
theorem dX9_town_17 : decode cX9_town 17 = .ok (.aload_n 0, 1) := by decide +kernel
theorem dX9_town_18 : decode cX9_town 18 = .ok (.getfield 10, 3) := by decide +kernel
theorem dX9_town_21 : decode cX9_town 21 = .ok (.getfield 81, 3) := by decide +kernel
theorem dX9_town_24 : decode cX9_town 24 = .ok (.invokevirtual 84, 3) := by decide +kernel
theorem dX9_town_27 : decode cX9_town 27 = .ok (.aload_n 0, 1) := by decide +kernel
theorem dX9_town_28 : decode cX9_town 28 = .ok (.getfield 10, 3) := by decide +kernel
theorem dX9_town_31 : decode cX9_town 31 = .ok (.iconst 0, 1) := by decide +kernel
theorem dX9_town_32 : decode cX9_town 32 = .ok (.putfield 69, 3) := by decide +kernel
theorem dX9_town_35 : decode cX9_town 35 = .ok (.aload_n 0, 1) := by decide +kernel
theorem dX9_town_36 : decode cX9_town 36 = .ok (.getfield 19, 3) := by decide +kernel
theorem dX9_town_39 : decode cX9_town 39 = .ok (.getfield 88, 3) := by decide +kernel
theorem dX9_town_42 : decode cX9_town 42 = .ok (.ireturn, 1) := by decide +kernel
theorem dX9_fault_0 : decode cX9_fault 0 = .ok (.iload_n 1, 1) := by decide +kernel
theorem dX9_fault_1 : decode cX9_fault 1 = .ok (.ifCond .ne 11, 3) := by decide +kernel
theorem dX9_fault_4 : decode cX9_fault 4 = .ok (.aload_n 0, 1) := by decide +kernel
theorem dX9_fault_5 : decode cX9_fault 5 = .ok (.getfield 10, 3) := by decide +kernel
theorem dX9_fault_8 : decode cX9_fault 8 = .ok (.getfield 91, 3) := by decide +kernel
theorem dX9_fault_11 : decode cX9_fault 11 = .ok (.ireturn, 1) := by decide +kernel
theorem dX9_fault_12 : decode cX9_fault 12 = .ok (.iload_n 1, 1) := by decide +kernel
theorem dX9_fault_13 : decode cX9_fault 13 = .ok (.iconst 1, 1) := by decide +kernel
theorem dX9_fault_14 : decode cX9_fault 14 = .ok (.if_icmp .ne 13, 3) := by decide +kernel
theorem dX9_fault_17 : decode cX9_fault 17 = .ok (.aload_n 0, 1) := by decide +kernel
theorem dX9_fault_18 : decode cX9_fault 18 = .ok (.getfield 10, 3) := by decide +kernel
theorem dX9_fault_21 : decode cX9_fault 21 = .ok (.getfield 94, 3) := by decide +kernel
theorem dX9_fault_24 : decode cX9_fault 24 = .ok (.goto 4, 3) := by decide +kernel
theorem dX9_fault_27 : decode cX9_fault 27 = .ok (.iconst (-1), 1) := by decide +kernel
theorem dX9_fault_28 : decode cX9_fault 28 = .ok (.ireturn, 1) := by decide +kernel
theorem dX9_isPerson_0 : decode cX9_isPerson 0 = .ok (.lload_n 1, 1) := by decide +kernel
theorem dX9_isPerson_1 : decode cX9_isPerson 1 = .ok (.lconst 0, 1) := by decide +kernel
theorem dX9_isPerson_2 : decode cX9_isPerson 2 = .ok (.lcmp, 1) := by decide +kernel
theorem dX9_isPerson_3 : decode cX9_isPerson 3 = .ok (.ifCond .lt 20, 3) := by decide +kernel
theorem dX9_isPerson_6 : decode cX9_isPerson 6 = .ok (.lload_n 1, 1) := by decide +kernel
theorem dX9_isPerson_7 : decode cX9_isPerson 7 = .ok (.aload_n 0, 1) := by decide +kernel
theorem dX9_isPerson_8 : decode cX9_isPerson 8 = .ok (.getfield 19, 3) := by decide +kernel
theorem dX9_isPerson_11 : decode cX9_isPerson 11 = .ok (.getfield 97, 3) := by decide +kernel
theorem dX9_isPerson_14 : decode cX9_isPerson 14 = .ok (.i2l, 1) := by decide +kernel
theorem dX9_isPerson_15 : decode cX9_isPerson 15 = .ok (.lcmp, 1) := by decide +kernel
theorem dX9_isPerson_16 : decode cX9_isPerson 16 = .ok (.ifCond .ge 7, 3) := by decide +kernel
theorem dX9_isPerson_23 : decode cX9_isPerson 23 = .ok (.iconst 0, 1) := by decide +kernel
theorem dX9_isPerson_24 : decode cX9_isPerson 24 = .ok (.ireturn, 1) := by decide +kernel
theorem dX9_arePair_0 : decode cX9_arePair 0 = .ok (.aload_n 0, 1) := by decide +kernel
theorem dX9_arePair_1 : decode cX9_arePair 1 = .ok (.iload_n 1, 1) := by decide +kernel
theorem dX9_arePair_2 : decode cX9_arePair 2 = .ok (.i2l, 1) := by decide +kernel
theorem dX9_arePair_3 : decode cX9_arePair 3 = .ok (.invokevirtual 100, 3) := by decide +kernel
theorem dX9_arePair_6 : decode cX9_arePair 6 = .ok (.ifCond .eq 21, 3) := by decide +kernel
theorem dX9_arePair_27 : decode cX9_arePair 27 = .ok (.iconst 0, 1) := by decide +kernel
theorem dX9_arePair_28 : decode cX9_arePair 28 = .ok (.ireturn, 1) := by decide +kernel
theorem dX9_areDays_0 : decode cX9_areDays 0 = .ok (.iload_n 0, 1) := by decide +kernel
theorem dX9_areDays_1 : decode cX9_areDays 1 = .ok (.iconst 1, 1) := by decide +kernel
theorem dX9_areDays_2 : decode cX9_areDays 2 = .ok (.if_icmp .lt 13, 3) := by decide +kernel
theorem dX9_areDays_5 : decode cX9_areDays 5 = .ok (.iload_n 0, 1) := by decide +kernel
theorem dX9_areDays_6 : decode cX9_areDays 6 = .ok (.bipush 30, 2) := by decide +kernel
theorem dX9_areDays_8 : decode cX9_areDays 8 = .ok (.if_icmp .gt 7, 3) := by decide +kernel
theorem dX9_areDays_11 : decode cX9_areDays 11 = .ok (.iconst 1, 1) := by decide +kernel
theorem dX9_areDays_12 : decode cX9_areDays 12 = .ok (.goto 4, 3) := by decide +kernel
theorem dX9_areDays_15 : decode cX9_areDays 15 = .ok (.iconst 0, 1) := by decide +kernel
theorem dX9_areDays_16 : decode cX9_areDays 16 = .ok (.ireturn, 1) := by decide +kernel
theorem dX9_canPass_0 : decode cX9_canPass 0 = .ok (.iload_n 1, 1) := by decide +kernel
theorem dX9_canPass_1 : decode cX9_canPass 1 = .ok (.invokestatic 104, 3) := by decide +kernel
theorem dX9_canPass_4 : decode cX9_canPass 4 = .ok (.ifCond .eq 17, 3) := by decide +kernel
theorem dX9_canPass_7 : decode cX9_canPass 7 = .ok (.aload_n 0, 1) := by decide +kernel
theorem dX9_canPass_8 : decode cX9_canPass 8 = .ok (.getfield 19, 3) := by decide +kernel
theorem dX9_canPass_11 : decode cX9_canPass 11 = .ok (.getfield 97, 3) := by decide +kernel
theorem dX9_canPass_14 : decode cX9_canPass 14 = .ok (.ifCond .le 7, 3) := by decide +kernel
theorem dX9_canPass_21 : decode cX9_canPass 21 = .ok (.iconst 0, 1) := by decide +kernel
theorem dX9_canPass_22 : decode cX9_canPass 22 = .ok (.ireturn, 1) := by decide +kernel
theorem dX9_isWay_0 : decode cX9_isWay 0 = .ok (.lload_n 0, 1) := by decide +kernel
theorem dX9_isWay_1 : decode cX9_isWay 1 = .ok (.lconst 0, 1) := by decide +kernel
theorem dX9_isWay_2 : decode cX9_isWay 2 = .ok (.lcmp, 1) := by decide +kernel
theorem dX9_isWay_3 : decode cX9_isWay 3 = .ok (.ifCond .lt 15, 3) := by decide +kernel
theorem dX9_isWay_6 : decode cX9_isWay 6 = .ok (.lload_n 0, 1) := by decide +kernel
theorem dX9_isWay_7 : decode cX9_isWay 7 = .ok (.ldc2_w 108, 3) := by decide +kernel
theorem dX9_isWay_10 : decode cX9_isWay 10 = .ok (.lcmp, 1) := by decide +kernel
theorem dX9_isWay_11 : decode cX9_isWay 11 = .ok (.ifCond .ge 7, 3) := by decide +kernel
theorem dX9_isWay_14 : decode cX9_isWay 14 = .ok (.iconst 1, 1) := by decide +kernel
theorem dX9_isWay_15 : decode cX9_isWay 15 = .ok (.goto 4, 3) := by decide +kernel
theorem dX9_isWay_18 : decode cX9_isWay 18 = .ok (.iconst 0, 1) := by decide +kernel
theorem dX9_isWay_19 : decode cX9_isWay 19 = .ok (.ireturn, 1) := by decide +kernel
theorem dX9_person_0 : decode cX9_person 0 = .ok (.aload_n 0, 1) := by decide +kernel
theorem dX9_person_1 : decode cX9_person 1 = .ok (.iload_n 1, 1) := by decide +kernel
theorem dX9_person_2 : decode cX9_person 2 = .ok (.i2l, 1) := by decide +kernel
theorem dX9_person_3 : decode cX9_person 3 = .ok (.invokevirtual 100, 3) := by decide +kernel
theorem dX9_person_6 : decode cX9_person 6 = .ok (.ifCond .ne 6, 3) := by decide +kernel
theorem dX9_person_9 : decode cX9_person 9 = .ok (.bipush (-2), 2) := by decide +kernel
theorem dX9_person_11 : decode cX9_person 11 = .ok (.ireturn, 1) := by decide +kernel
theorem dX9_have_0 : decode cX9_have 0 = .ok (.aload_n 0, 1) := by decide +kernel
theorem dX9_have_1 : decode cX9_have 1 = .ok (.iload_n 1, 1) := by decide +kernel
theorem dX9_have_2 : decode cX9_have 2 = .ok (.i2l, 1) := by decide +kernel
theorem dX9_have_3 : decode cX9_have 3 = .ok (.invokevirtual 100, 3) := by decide +kernel
theorem dX9_have_6 : decode cX9_have 6 = .ok (.ifCond .eq 18, 3) := by decide +kernel
theorem dX9_have_24 : decode cX9_have 24 = .ok (.bipush (-2), 2) := by decide +kernel
theorem dX9_have_26 : decode cX9_have 26 = .ok (.ireturn, 1) := by decide +kernel
theorem dX9_hide_0 : decode cX9_hide 0 = .ok (.aload_n 0, 1) := by decide +kernel
theorem dX9_hide_1 : decode cX9_hide 1 = .ok (.iload_n 1, 1) := by decide +kernel
theorem dX9_hide_2 : decode cX9_hide 2 = .ok (.i2l, 1) := by decide +kernel
theorem dX9_hide_3 : decode cX9_hide 3 = .ok (.invokevirtual 100, 3) := by decide +kernel
theorem dX9_hide_6 : decode cX9_hide 6 = .ok (.ifCond .eq 13, 3) := by decide +kernel
theorem dX9_hide_19 : decode cX9_hide 19 = .ok (.bipush (-2), 2) := by decide +kernel
theorem dX9_hide_21 : decode cX9_hide 21 = .ok (.ireturn, 1) := by decide +kernel
theorem dX9_seen_0 : decode cX9_seen 0 = .ok (.aload_n 0, 1) := by decide +kernel
theorem dX9_seen_1 : decode cX9_seen 1 = .ok (.iload_n 1, 1) := by decide +kernel
theorem dX9_seen_2 : decode cX9_seen 2 = .ok (.iload_n 2, 1) := by decide +kernel
theorem dX9_seen_3 : decode cX9_seen 3 = .ok (.invokevirtual 141, 3) := by decide +kernel
theorem dX9_seen_6 : decode cX9_seen 6 = .ok (.ifCond .eq 15, 3) := by decide +kernel
theorem dX9_seen_21 : decode cX9_seen 21 = .ok (.bipush (-2), 2) := by decide +kernel
theorem dX9_seen_23 : decode cX9_seen 23 = .ok (.ireturn, 1) := by decide +kernel
theorem dX9_sight_0 : decode cX9_sight 0 = .ok (.aload_n 0, 1) := by decide +kernel
theorem dX9_sight_1 : decode cX9_sight 1 = .ok (.iload_n 1, 1) := by decide +kernel
theorem dX9_sight_2 : decode cX9_sight 2 = .ok (.iload_n 2, 1) := by decide +kernel
theorem dX9_sight_3 : decode cX9_sight 3 = .ok (.invokevirtual 141, 3) := by decide +kernel
theorem dX9_sight_6 : decode cX9_sight 6 = .ok (.ifCond .eq 14, 3) := by decide +kernel
theorem dX9_sight_20 : decode cX9_sight 20 = .ok (.bipush (-2), 2) := by decide +kernel
theorem dX9_sight_22 : decode cX9_sight 22 = .ok (.ireturn, 1) := by decide +kernel
theorem dX9_tops_0 : decode cX9_tops 0 = .ok (.aload_n 0, 1) := by decide +kernel
theorem dX9_tops_1 : decode cX9_tops 1 = .ok (.getfield 19, 3) := by decide +kernel
theorem dX9_tops_4 : decode cX9_tops 4 = .ok (.getfield 97, 3) := by decide +kernel
theorem dX9_tops_7 : decode cX9_tops 7 = .ok (.ifCond .ne 6, 3) := by decide +kernel
theorem dX9_tops_10 : decode cX9_tops 10 = .ok (.bipush (-2), 2) := by decide +kernel
theorem dX9_tops_12 : decode cX9_tops 12 = .ok (.ireturn, 1) := by decide +kernel
theorem dX9_next_0 : decode cX9_next 0 = .ok (.aload_n 0, 1) := by decide +kernel
theorem dX9_next_1 : decode cX9_next 1 = .ok (.getfield 19, 3) := by decide +kernel
theorem dX9_next_4 : decode cX9_next 4 = .ok (.getfield 97, 3) := by decide +kernel
theorem dX9_next_7 : decode cX9_next 7 = .ok (.ifCond .ne 6, 3) := by decide +kernel
theorem dX9_next_10 : decode cX9_next 10 = .ok (.bipush (-2), 2) := by decide +kernel
theorem dX9_next_12 : decode cX9_next 12 = .ok (.ireturn, 1) := by decide +kernel
theorem dX9_loses_0 : decode cX9_loses 0 = .ok (.aload_n 0, 1) := by decide +kernel
theorem dX9_loses_1 : decode cX9_loses 1 = .ok (.iload_n 1, 1) := by decide +kernel
theorem dX9_loses_2 : decode cX9_loses 2 = .ok (.i2l, 1) := by decide +kernel
theorem dX9_loses_3 : decode cX9_loses 3 = .ok (.invokevirtual 100, 3) := by decide +kernel
theorem dX9_loses_6 : decode cX9_loses 6 = .ok (.ifCond .ne 6, 3) := by decide +kernel
theorem dX9_loses_9 : decode cX9_loses 9 = .ok (.bipush (-2), 2) := by decide +kernel
theorem dX9_loses_11 : decode cX9_loses 11 = .ok (.ireturn, 1) := by decide +kernel
theorem dX9_stroke_0 : decode cX9_stroke 0 = .ok (.aload_n 0, 1) := by decide +kernel
theorem dX9_stroke_1 : decode cX9_stroke 1 = .ok (.getfield 19, 3) := by decide +kernel
theorem dX9_stroke_4 : decode cX9_stroke 4 = .ok (.getfield 97, 3) := by decide +kernel
theorem dX9_stroke_7 : decode cX9_stroke 7 = .ok (.ifCond .ne 6, 3) := by decide +kernel
theorem dX9_stroke_10 : decode cX9_stroke 10 = .ok (.bipush (-2), 2) := by decide +kernel
theorem dX9_stroke_12 : decode cX9_stroke 12 = .ok (.ireturn, 1) := by decide +kernel
theorem dX9_whyNot_0 : decode cX9_whyNot 0 = .ok (.aload_n 0, 1) := by decide +kernel
theorem dX9_whyNot_1 : decode cX9_whyNot 1 = .ok (.lload_n 2, 1) := by decide +kernel
theorem dX9_whyNot_2 : decode cX9_whyNot 2 = .ok (.invokevirtual 100, 3) := by decide +kernel
theorem dX9_whyNot_5 : decode cX9_whyNot 5 = .ok (.ifCond .eq 31, 3) := by decide +kernel
theorem dX9_whyNot_36 : decode cX9_whyNot 36 = .ok (.bipush (-2), 2) := by decide +kernel
theorem dX9_whyNot_38 : decode cX9_whyNot 38 = .ok (.ireturn, 1) := by decide +kernel
theorem dX9_act_0 : decode cX9_act 0 = .ok (.aload_n 0, 1) := by decide +kernel
theorem dX9_act_1 : decode cX9_act 1 = .ok (.aload_n 0, 1) := by decide +kernel
theorem dX9_act_2 : decode cX9_act 2 = .ok (.getfield 19, 3) := by decide +kernel
theorem dX9_act_5 : decode cX9_act 5 = .ok (.iload_n 1, 1) := by decide +kernel
theorem dX9_act_6 : decode cX9_act 6 = .ok (.i2l, 1) := by decide +kernel
theorem dX9_act_7 : decode cX9_act 7 = .ok (.iload_n 2, 1) := by decide +kernel
theorem dX9_act_8 : decode cX9_act 8 = .ok (.i2l, 1) := by decide +kernel
theorem dX9_act_9 : decode cX9_act 9 = .ok (.iload_n 3, 1) := by decide +kernel
theorem dX9_act_10 : decode cX9_act 10 = .ok (.i2l, 1) := by decide +kernel
theorem dX9_act_11 : decode cX9_act 11 = .ok (.iload 4, 2) := by decide +kernel
theorem dX9_act_13 : decode cX9_act 13 = .ok (.i2l, 1) := by decide +kernel
theorem dX9_act_14 : decode cX9_act 14 = .ok (.iload 5, 2) := by decide +kernel
theorem dX9_act_16 : decode cX9_act 16 = .ok (.i2l, 1) := by decide +kernel
theorem dX9_act_17 : decode cX9_act 17 = .ok (.invokevirtual 187, 3) := by decide +kernel
theorem dX9_act_20 : decode cX9_act 20 = .ok (.istore 6, 2) := by decide +kernel
theorem dX9_act_22 : decode cX9_act 22 = .ok (.iload 6, 2) := by decide +kernel
theorem dX9_act_24 : decode cX9_act 24 = .ok (.ifCond .eq 6, 3) := by decide +kernel
theorem dX9_act_27 : decode cX9_act 27 = .ok (.iload 6, 2) := by decide +kernel
theorem dX9_act_29 : decode cX9_act 29 = .ok (.ireturn, 1) := by decide +kernel
theorem dX9_judge_0 : decode cX9_judge 0 = .ok (.iload_n 1, 1) := by decide +kernel
theorem dX9_judge_1 : decode cX9_judge 1 = .ok (.ifCond .lt 8, 3) := by decide +kernel
theorem dX9_judge_4 : decode cX9_judge 4 = .ok (.iload_n 1, 1) := by decide +kernel
theorem dX9_judge_5 : decode cX9_judge 5 = .ok (.iconst 4, 1) := by decide +kernel
theorem dX9_judge_6 : decode cX9_judge 6 = .ok (.if_icmp .lt 6, 3) := by decide +kernel
theorem dX9_judge_9 : decode cX9_judge 9 = .ok (.bipush (-2), 2) := by decide +kernel
theorem dX9_judge_11 : decode cX9_judge 11 = .ok (.ireturn, 1) := by decide +kernel
theorem dX9_judge_12 : decode cX9_judge 12 = .ok (.aload_n 0, 1) := by decide +kernel
theorem dX9_judge_13 : decode cX9_judge 13 = .ok (.getfield 36, 3) := by decide +kernel
theorem dX9_judge_16 : decode cX9_judge 16 = .ok (.iload_n 1, 1) := by decide +kernel
theorem dX9_judge_17 : decode cX9_judge 17 = .ok (.aaload, 1) := by decide +kernel
theorem dX9_judge_18 : decode cX9_judge 18 = .ok (.astore_n 2, 1) := by decide +kernel
theorem dX9_judge_19 : decode cX9_judge 19 = .ok (.aload_n 2, 1) := by decide +kernel
theorem dX9_judge_20 : decode cX9_judge 20 = .ok (.getfield 198, 3) := by decide +kernel
theorem dX9_judge_23 : decode cX9_judge 23 = .ok (.ifCond .ne 6, 3) := by decide +kernel
theorem dX9_judge_26 : decode cX9_judge 26 = .ok (.bipush (-6), 2) := by decide +kernel
theorem dX9_judge_28 : decode cX9_judge 28 = .ok (.ireturn, 1) := by decide +kernel
theorem dX9_run_0 : decode cX9_run 0 = .ok (.aload_n 0, 1) := by decide +kernel
theorem dX9_run_1 : decode cX9_run 1 = .ok (.iload_n 1, 1) := by decide +kernel
theorem dX9_run_2 : decode cX9_run 2 = .ok (.invokevirtual 215, 3) := by decide +kernel
theorem dX9_run_5 : decode cX9_run 5 = .ok (.ifCond .ne 6, 3) := by decide +kernel
theorem dX9_run_8 : decode cX9_run 8 = .ok (.bipush (-2), 2) := by decide +kernel
theorem dX9_run_10 : decode cX9_run 10 = .ok (.ireturn, 1) := by decide +kernel
theorem dX9_value_0 : decode cX9_value 0 = .ok (.aload_n 0, 1) := by decide +kernel
theorem dX9_value_1 : decode cX9_value 1 = .ok (.aload_n 0, 1) := by decide +kernel
theorem dX9_value_2 : decode cX9_value 2 = .ok (.getfield 19, 3) := by decide +kernel
theorem dX9_value_5 : decode cX9_value 5 = .ok (.iload_n 1, 1) := by decide +kernel
theorem dX9_value_6 : decode cX9_value 6 = .ok (.i2l, 1) := by decide +kernel
theorem dX9_value_7 : decode cX9_value 7 = .ok (.iload_n 2, 1) := by decide +kernel
theorem dX9_value_8 : decode cX9_value 8 = .ok (.i2l, 1) := by decide +kernel
theorem dX9_value_9 : decode cX9_value 9 = .ok (.iload_n 3, 1) := by decide +kernel
theorem dX9_value_10 : decode cX9_value 10 = .ok (.i2l, 1) := by decide +kernel
theorem dX9_value_11 : decode cX9_value 11 = .ok (.iload 4, 2) := by decide +kernel
theorem dX9_value_13 : decode cX9_value 13 = .ok (.i2l, 1) := by decide +kernel
theorem dX9_value_14 : decode cX9_value 14 = .ok (.iload 5, 2) := by decide +kernel
theorem dX9_value_16 : decode cX9_value 16 = .ok (.i2l, 1) := by decide +kernel
theorem dX9_value_17 : decode cX9_value 17 = .ok (.invokevirtual 187, 3) := by decide +kernel
theorem dX9_value_20 : decode cX9_value 20 = .ok (.ifCond .eq 6, 3) := by decide +kernel
theorem dX9_value_23 : decode cX9_value 23 = .ok (.ldc 223, 2) := by decide +kernel
theorem dX9_value_25 : decode cX9_value 25 = .ok (.ireturn, 1) := by decide +kernel
theorem dX9_best_0 : decode cX9_best 0 = .ok (.aload_n 0, 1) := by decide +kernel
theorem dX9_best_1 : decode cX9_best 1 = .ok (.iload_n 1, 1) := by decide +kernel
theorem dX9_best_2 : decode cX9_best 2 = .ok (.i2l, 1) := by decide +kernel
theorem dX9_best_3 : decode cX9_best 3 = .ok (.invokevirtual 100, 3) := by decide +kernel
theorem dX9_best_6 : decode cX9_best 6 = .ok (.ifCond .eq 12, 3) := by decide +kernel
theorem dX9_best_18 : decode cX9_best 18 = .ok (.iload_n 2, 1) := by decide +kernel
theorem dX9_best_19 : decode cX9_best 19 = .ok (.ifCond .ne 8, 3) := by decide +kernel
theorem dX9_best_22 : decode cX9_best 22 = .ok (.ldc 223, 2) := by decide +kernel
theorem dX9_best_24 : decode cX9_best 24 = .ok (.goto 5, 3) := by decide +kernel
theorem dX9_best_27 : decode cX9_best 27 = .ok (.bipush (-2), 2) := by decide +kernel
theorem dX9_best_29 : decode cX9_best 29 = .ok (.ireturn, 1) := by decide +kernel
theorem dX9_gift_0 : decode cX9_gift 0 = .ok (.aload_n 0, 1) := by decide +kernel
theorem dX9_gift_1 : decode cX9_gift 1 = .ok (.iload_n 1, 1) := by decide +kernel
theorem dX9_gift_2 : decode cX9_gift 2 = .ok (.iload_n 2, 1) := by decide +kernel
theorem dX9_gift_3 : decode cX9_gift 3 = .ok (.invokevirtual 141, 3) := by decide +kernel
theorem dX9_gift_6 : decode cX9_gift 6 = .ok (.ifCond .eq 12, 3) := by decide +kernel
theorem dX9_gift_18 : decode cX9_gift 18 = .ok (.bipush (-2), 2) := by decide +kernel
theorem dX9_gift_20 : decode cX9_gift 20 = .ok (.ireturn, 1) := by decide +kernel
theorem dX9_gifts_0 : decode cX9_gifts 0 = .ok (.aload_n 0, 1) := by decide +kernel
theorem dX9_gifts_1 : decode cX9_gifts 1 = .ok (.iload_n 1, 1) := by decide +kernel
theorem dX9_gifts_2 : decode cX9_gifts 2 = .ok (.i2l, 1) := by decide +kernel
theorem dX9_gifts_3 : decode cX9_gifts 3 = .ok (.invokevirtual 100, 3) := by decide +kernel
theorem dX9_gifts_6 : decode cX9_gifts 6 = .ok (.ifCond .ne 6, 3) := by decide +kernel
theorem dX9_gifts_9 : decode cX9_gifts 9 = .ok (.bipush (-2), 2) := by decide +kernel
theorem dX9_gifts_11 : decode cX9_gifts 11 = .ok (.ireturn, 1) := by decide +kernel
theorem dX9_restless_0 : decode cX9_restless 0 = .ok (.aload_n 0, 1) := by decide +kernel
theorem dX9_restless_1 : decode cX9_restless 1 = .ok (.getfield 19, 3) := by decide +kernel
theorem dX9_restless_4 : decode cX9_restless 4 = .ok (.getfield 97, 3) := by decide +kernel
theorem dX9_restless_7 : decode cX9_restless 7 = .ok (.ifCond .ne 8, 3) := by decide +kernel
theorem dX9_restless_10 : decode cX9_restless 10 = .ok (.bipush (-2), 2) := by decide +kernel
theorem dX9_restless_12 : decode cX9_restless 12 = .ok (.goto 11, 3) := by decide +kernel
theorem dX9_restless_23 : decode cX9_restless 23 = .ok (.ireturn, 1) := by decide +kernel
theorem dX9_rests_0 : decode cX9_rests 0 = .ok (.iload_n 1, 1) := by decide +kernel
theorem dX9_rests_1 : decode cX9_rests 1 = .ok (.iconst 1, 1) := by decide +kernel
theorem dX9_rests_2 : decode cX9_rests 2 = .ok (.if_icmp .lt 31, 3) := by decide +kernel
theorem dX9_rests_5 : decode cX9_rests 5 = .ok (.iload_n 1, 1) := by decide +kernel
theorem dX9_rests_6 : decode cX9_rests 6 = .ok (.bipush 6, 2) := by decide +kernel
theorem dX9_rests_8 : decode cX9_rests 8 = .ok (.if_icmp .gt 25, 3) := by decide +kernel
theorem dX9_rests_11 : decode cX9_rests 11 = .ok (.aload_n 0, 1) := by decide +kernel
theorem dX9_rests_12 : decode cX9_rests 12 = .ok (.getfield 19, 3) := by decide +kernel
theorem dX9_rests_15 : decode cX9_rests 15 = .ok (.getfield 97, 3) := by decide +kernel
theorem dX9_rests_18 : decode cX9_rests 18 = .ok (.iconst 1, 1) := by decide +kernel
theorem dX9_rests_19 : decode cX9_rests 19 = .ok (.if_icmp .lt 14, 3) := by decide +kernel
theorem dX9_rests_33 : decode cX9_rests 33 = .ok (.bipush (-2), 2) := by decide +kernel
theorem dX9_rests_35 : decode cX9_rests 35 = .ok (.ireturn, 1) := by decide +kernel
theorem dX9_total_0 : decode cX9_total 0 = .ok (.aload_n 0, 1) := by decide +kernel
theorem dX9_total_1 : decode cX9_total 1 = .ok (.iload_n 1, 1) := by decide +kernel
theorem dX9_total_2 : decode cX9_total 2 = .ok (.i2l, 1) := by decide +kernel
theorem dX9_total_3 : decode cX9_total 3 = .ok (.invokevirtual 100, 3) := by decide +kernel
theorem dX9_total_6 : decode cX9_total 6 = .ok (.ifCond .eq 28, 3) := by decide +kernel
theorem dX9_total_34 : decode cX9_total 34 = .ok (.ldc 223, 2) := by decide +kernel
theorem dX9_total_36 : decode cX9_total 36 = .ok (.ireturn, 1) := by decide +kernel
theorem dX9_way_0 : decode cX9_way 0 = .ok (.aload_n 0, 1) := by decide +kernel
theorem dX9_way_1 : decode cX9_way 1 = .ok (.iload_n 1, 1) := by decide +kernel
theorem dX9_way_2 : decode cX9_way 2 = .ok (.i2l, 1) := by decide +kernel
theorem dX9_way_3 : decode cX9_way 3 = .ok (.invokevirtual 100, 3) := by decide +kernel
theorem dX9_way_6 : decode cX9_way 6 = .ok (.ifCond .eq 10, 3) := by decide +kernel
theorem dX9_way_16 : decode cX9_way 16 = .ok (.bipush (-2), 2) := by decide +kernel
theorem dX9_way_18 : decode cX9_way 18 = .ok (.ireturn, 1) := by decide +kernel
theorem dX9_turnsTo_0 : decode cX9_turnsTo 0 = .ok (.aload_n 0, 1) := by decide +kernel
theorem dX9_turnsTo_1 : decode cX9_turnsTo 1 = .ok (.iload_n 1, 1) := by decide +kernel
theorem dX9_turnsTo_2 : decode cX9_turnsTo 2 = .ok (.i2l, 1) := by decide +kernel
theorem dX9_turnsTo_3 : decode cX9_turnsTo 3 = .ok (.invokevirtual 100, 3) := by decide +kernel
theorem dX9_turnsTo_6 : decode cX9_turnsTo 6 = .ok (.ifCond .eq 11, 3) := by decide +kernel
theorem dX9_turnsTo_17 : decode cX9_turnsTo 17 = .ok (.bipush (-2), 2) := by decide +kernel
theorem dX9_turnsTo_19 : decode cX9_turnsTo 19 = .ok (.ireturn, 1) := by decide +kernel
theorem dX9_idle_0 : decode cX9_idle 0 = .ok (.aload_n 0, 1) := by decide +kernel
theorem dX9_idle_1 : decode cX9_idle 1 = .ok (.iload_n 1, 1) := by decide +kernel
theorem dX9_idle_2 : decode cX9_idle 2 = .ok (.invokevirtual 215, 3) := by decide +kernel
theorem dX9_idle_5 : decode cX9_idle 5 = .ok (.ifCond .ne 6, 3) := by decide +kernel
theorem dX9_idle_8 : decode cX9_idle 8 = .ok (.bipush (-2), 2) := by decide +kernel
theorem dX9_idle_10 : decode cX9_idle 10 = .ok (.ireturn, 1) := by decide +kernel
theorem dX9_spread_0 : decode cX9_spread 0 = .ok (.aload_n 0, 1) := by decide +kernel
theorem dX9_spread_1 : decode cX9_spread 1 = .ok (.getfield 19, 3) := by decide +kernel
theorem dX9_spread_4 : decode cX9_spread 4 = .ok (.invokevirtual 292, 3) := by decide +kernel
theorem dX9_spread_7 : decode cX9_spread 7 = .ok (.ireturn, 1) := by decide +kernel
theorem dX9_beside_0 : decode cX9_beside 0 = .ok (.aload_n 0, 1) := by decide +kernel
theorem dX9_beside_1 : decode cX9_beside 1 = .ok (.iload_n 1, 1) := by decide +kernel
theorem dX9_beside_2 : decode cX9_beside 2 = .ok (.invokevirtual 215, 3) := by decide +kernel
theorem dX9_beside_5 : decode cX9_beside 5 = .ok (.ifCond .eq 12, 3) := by decide +kernel
theorem dX9_beside_17 : decode cX9_beside 17 = .ok (.ldc 223, 2) := by decide +kernel
theorem dX9_beside_19 : decode cX9_beside 19 = .ok (.ireturn, 1) := by decide +kernel
theorem dX9_law_0 : decode cX9_law 0 = .ok (.aload_n 0, 1) := by decide +kernel
theorem dX9_law_1 : decode cX9_law 1 = .ok (.getfield 19, 3) := by decide +kernel
theorem dX9_law_4 : decode cX9_law 4 = .ok (.getfield 88, 3) := by decide +kernel
theorem dX9_law_7 : decode cX9_law 7 = .ok (.ifCond .eq 32, 3) := by decide +kernel
theorem dX9_law_39 : decode cX9_law 39 = .ok (.bipush (-2), 2) := by decide +kernel
theorem dX9_law_41 : decode cX9_law 41 = .ok (.ireturn, 1) := by decide +kernel
theorem dX9_laws_0 : decode cX9_laws 0 = .ok (.aload_n 0, 1) := by decide +kernel
theorem dX9_laws_1 : decode cX9_laws 1 = .ok (.iload_n 1, 1) := by decide +kernel
theorem dX9_laws_2 : decode cX9_laws 2 = .ok (.invokevirtual 215, 3) := by decide +kernel
theorem dX9_laws_5 : decode cX9_laws 5 = .ok (.ifCond .ne 6, 3) := by decide +kernel
theorem dX9_laws_8 : decode cX9_laws 8 = .ok (.bipush (-2), 2) := by decide +kernel
theorem dX9_laws_10 : decode cX9_laws 10 = .ok (.ireturn, 1) := by decide +kernel
theorem dX9_leaves_0 : decode cX9_leaves 0 = .ok (.aload_n 0, 1) := by decide +kernel
theorem dX9_leaves_1 : decode cX9_leaves 1 = .ok (.iload_n 1, 1) := by decide +kernel
theorem dX9_leaves_2 : decode cX9_leaves 2 = .ok (.iload_n 2, 1) := by decide +kernel
theorem dX9_leaves_3 : decode cX9_leaves 3 = .ok (.invokevirtual 141, 3) := by decide +kernel
theorem dX9_leaves_6 : decode cX9_leaves 6 = .ok (.ifCond .ne 6, 3) := by decide +kernel
theorem dX9_leaves_9 : decode cX9_leaves 9 = .ok (.bipush (-2), 2) := by decide +kernel
theorem dX9_leaves_11 : decode cX9_leaves 11 = .ok (.ireturn, 1) := by decide +kernel
theorem dX9_breaks_0 : decode cX9_breaks 0 = .ok (.aload_n 0, 1) := by decide +kernel
theorem dX9_breaks_1 : decode cX9_breaks 1 = .ok (.iload_n 1, 1) := by decide +kernel
theorem dX9_breaks_2 : decode cX9_breaks 2 = .ok (.iload_n 2, 1) := by decide +kernel
theorem dX9_breaks_3 : decode cX9_breaks 3 = .ok (.invokevirtual 141, 3) := by decide +kernel
theorem dX9_breaks_6 : decode cX9_breaks 6 = .ok (.ifCond .eq 12, 3) := by decide +kernel
theorem dX9_breaks_18 : decode cX9_breaks 18 = .ok (.bipush (-2), 2) := by decide +kernel
theorem dX9_breaks_20 : decode cX9_breaks 20 = .ok (.ireturn, 1) := by decide +kernel
theorem dX9_third_0 : decode cX9_third 0 = .ok (.aload_n 0, 1) := by decide +kernel
theorem dX9_third_1 : decode cX9_third 1 = .ok (.iload_n 1, 1) := by decide +kernel
theorem dX9_third_2 : decode cX9_third 2 = .ok (.i2l, 1) := by decide +kernel
theorem dX9_third_3 : decode cX9_third 3 = .ok (.invokevirtual 100, 3) := by decide +kernel
theorem dX9_third_6 : decode cX9_third 6 = .ok (.ifCond .ne 6, 3) := by decide +kernel
theorem dX9_third_9 : decode cX9_third 9 = .ok (.bipush (-2), 2) := by decide +kernel
theorem dX9_third_11 : decode cX9_third 11 = .ok (.ireturn, 1) := by decide +kernel
theorem dX9_know_0 : decode cX9_know 0 = .ok (.aload_n 0, 1) := by decide +kernel
theorem dX9_know_1 : decode cX9_know 1 = .ok (.iload_n 1, 1) := by decide +kernel
theorem dX9_know_2 : decode cX9_know 2 = .ok (.i2l, 1) := by decide +kernel
theorem dX9_know_3 : decode cX9_know 3 = .ok (.invokevirtual 100, 3) := by decide +kernel
theorem dX9_know_6 : decode cX9_know 6 = .ok (.ifCond .eq 21, 3) := by decide +kernel
theorem dX9_know_27 : decode cX9_know 27 = .ok (.ldc 223, 2) := by decide +kernel
theorem dX9_know_29 : decode cX9_know 29 = .ok (.ireturn, 1) := by decide +kernel
theorem dX9_knows_0 : decode cX9_knows 0 = .ok (.aload_n 0, 1) := by decide +kernel
theorem dX9_knows_1 : decode cX9_knows 1 = .ok (.iload_n 1, 1) := by decide +kernel
theorem dX9_knows_2 : decode cX9_knows 2 = .ok (.iload_n 2, 1) := by decide +kernel
theorem dX9_knows_3 : decode cX9_knows 3 = .ok (.invokevirtual 141, 3) := by decide +kernel
theorem dX9_knows_6 : decode cX9_knows 6 = .ok (.ifCond .eq 21, 3) := by decide +kernel
theorem dX9_knows_27 : decode cX9_knows 27 = .ok (.ldc 223, 2) := by decide +kernel
theorem dX9_knows_29 : decode cX9_knows 29 = .ok (.ireturn, 1) := by decide +kernel
theorem dX9_lend_0 : decode cX9_lend 0 = .ok (.aload_n 0, 1) := by decide +kernel
theorem dX9_lend_1 : decode cX9_lend 1 = .ok (.iload_n 1, 1) := by decide +kernel
theorem dX9_lend_2 : decode cX9_lend 2 = .ok (.iload_n 2, 1) := by decide +kernel
theorem dX9_lend_3 : decode cX9_lend 3 = .ok (.invokevirtual 141, 3) := by decide +kernel
theorem dX9_lend_6 : decode cX9_lend 6 = .ok (.ifCond .eq 14, 3) := by decide +kernel
theorem dX9_lend_20 : decode cX9_lend 20 = .ok (.bipush (-2), 2) := by decide +kernel
theorem dX9_lend_22 : decode cX9_lend 22 = .ok (.ireturn, 1) := by decide +kernel
theorem dX9_round_0 : decode cX9_round 0 = .ok (.aload_n 0, 1) := by decide +kernel
theorem dX9_round_1 : decode cX9_round 1 = .ok (.iload_n 1, 1) := by decide +kernel
theorem dX9_round_2 : decode cX9_round 2 = .ok (.iload_n 2, 1) := by decide +kernel
theorem dX9_round_3 : decode cX9_round 3 = .ok (.invokevirtual 141, 3) := by decide +kernel
theorem dX9_round_6 : decode cX9_round 6 = .ok (.ifCond .ne 6, 3) := by decide +kernel
theorem dX9_round_9 : decode cX9_round 9 = .ok (.bipush (-2), 2) := by decide +kernel
theorem dX9_round_11 : decode cX9_round 11 = .ok (.ireturn, 1) := by decide +kernel
theorem dX9_canHide_0 : decode cX9_canHide 0 = .ok (.aload_n 0, 1) := by decide +kernel
theorem dX9_canHide_1 : decode cX9_canHide 1 = .ok (.iload_n 1, 1) := by decide +kernel
theorem dX9_canHide_2 : decode cX9_canHide 2 = .ok (.i2l, 1) := by decide +kernel
theorem dX9_canHide_3 : decode cX9_canHide 3 = .ok (.invokevirtual 100, 3) := by decide +kernel
theorem dX9_canHide_6 : decode cX9_canHide 6 = .ok (.ifCond .eq 27, 3) := by decide +kernel
theorem dX9_canHide_33 : decode cX9_canHide 33 = .ok (.iconst 0, 1) := by decide +kernel
theorem dX9_canHide_34 : decode cX9_canHide 34 = .ok (.ireturn, 1) := by decide +kernel
theorem dX9_hides_0 : decode cX9_hides 0 = .ok (.aload_n 0, 1) := by decide +kernel
theorem dX9_hides_1 : decode cX9_hides 1 = .ok (.iload_n 1, 1) := by decide +kernel
theorem dX9_hides_2 : decode cX9_hides 2 = .ok (.iload_n 2, 1) := by decide +kernel
theorem dX9_hides_3 : decode cX9_hides 3 = .ok (.invokevirtual 345, 3) := by decide +kernel
theorem dX9_hides_6 : decode cX9_hides 6 = .ok (.ifCond .ne 6, 3) := by decide +kernel
theorem dX9_hides_9 : decode cX9_hides 9 = .ok (.ldc 223, 2) := by decide +kernel
theorem dX9_hides_11 : decode cX9_hides 11 = .ok (.ireturn, 1) := by decide +kernel
theorem dX9_edge_0 : decode cX9_edge 0 = .ok (.aload_n 0, 1) := by decide +kernel
theorem dX9_edge_1 : decode cX9_edge 1 = .ok (.iload_n 1, 1) := by decide +kernel
theorem dX9_edge_2 : decode cX9_edge 2 = .ok (.iload_n 2, 1) := by decide +kernel
theorem dX9_edge_3 : decode cX9_edge 3 = .ok (.invokevirtual 345, 3) := by decide +kernel
theorem dX9_edge_6 : decode cX9_edge 6 = .ok (.ifCond .ne 6, 3) := by decide +kernel
theorem dX9_edge_9 : decode cX9_edge 9 = .ok (.bipush (-2), 2) := by decide +kernel
theorem dX9_edge_11 : decode cX9_edge 11 = .ok (.ireturn, 1) := by decide +kernel
theorem dX9_pays_0 : decode cX9_pays 0 = .ok (.aload_n 0, 1) := by decide +kernel
theorem dX9_pays_1 : decode cX9_pays 1 = .ok (.iload_n 1, 1) := by decide +kernel
theorem dX9_pays_2 : decode cX9_pays 2 = .ok (.i2l, 1) := by decide +kernel
theorem dX9_pays_3 : decode cX9_pays 3 = .ok (.invokevirtual 100, 3) := by decide +kernel
theorem dX9_pays_6 : decode cX9_pays 6 = .ok (.ifCond .eq 10, 3) := by decide +kernel
theorem dX9_pays_16 : decode cX9_pays 16 = .ok (.bipush (-2), 2) := by decide +kernel
theorem dX9_pays_18 : decode cX9_pays 18 = .ok (.ireturn, 1) := by decide +kernel
theorem dX9_quiet_0 : decode cX9_quiet 0 = .ok (.aload_n 0, 1) := by decide +kernel
theorem dX9_quiet_1 : decode cX9_quiet 1 = .ok (.iload_n 1, 1) := by decide +kernel
theorem dX9_quiet_2 : decode cX9_quiet 2 = .ok (.invokevirtual 215, 3) := by decide +kernel
theorem dX9_quiet_5 : decode cX9_quiet 5 = .ok (.ifCond .eq 12, 3) := by decide +kernel
theorem dX9_quiet_17 : decode cX9_quiet 17 = .ok (.bipush (-2), 2) := by decide +kernel
theorem dX9_quiet_19 : decode cX9_quiet 19 = .ok (.ireturn, 1) := by decide +kernel
theorem dX9_again_0 : decode cX9_again 0 = .ok (.aload_n 0, 1) := by decide +kernel
theorem dX9_again_1 : decode cX9_again 1 = .ok (.iload_n 1, 1) := by decide +kernel
theorem dX9_again_2 : decode cX9_again 2 = .ok (.invokevirtual 215, 3) := by decide +kernel
theorem dX9_again_5 : decode cX9_again 5 = .ok (.ifCond .ne 6, 3) := by decide +kernel
theorem dX9_again_8 : decode cX9_again 8 = .ok (.bipush (-2), 2) := by decide +kernel
theorem dX9_again_10 : decode cX9_again 10 = .ok (.ireturn, 1) := by decide +kernel
theorem dX9_alike_0 : decode cX9_alike 0 = .ok (.aload_n 0, 1) := by decide +kernel
theorem dX9_alike_1 : decode cX9_alike 1 = .ok (.iload_n 1, 1) := by decide +kernel
theorem dX9_alike_2 : decode cX9_alike 2 = .ok (.invokevirtual 215, 3) := by decide +kernel
theorem dX9_alike_5 : decode cX9_alike 5 = .ok (.ifCond .ne 6, 3) := by decide +kernel
theorem dX9_alike_8 : decode cX9_alike 8 = .ok (.bipush (-2), 2) := by decide +kernel
theorem dX9_alike_10 : decode cX9_alike 10 = .ok (.ireturn, 1) := by decide +kernel
theorem dX9_follows_0 : decode cX9_follows 0 = .ok (.aload_n 0, 1) := by decide +kernel
theorem dX9_follows_1 : decode cX9_follows 1 = .ok (.iload_n 1, 1) := by decide +kernel
theorem dX9_follows_2 : decode cX9_follows 2 = .ok (.i2l, 1) := by decide +kernel
theorem dX9_follows_3 : decode cX9_follows 3 = .ok (.invokevirtual 100, 3) := by decide +kernel
theorem dX9_follows_6 : decode cX9_follows 6 = .ok (.ifCond .eq 25, 3) := by decide +kernel
theorem dX9_follows_31 : decode cX9_follows 31 = .ok (.ldc 223, 2) := by decide +kernel
theorem dX9_follows_33 : decode cX9_follows 33 = .ok (.ireturn, 1) := by decide +kernel
theorem dX9_plan_0 : decode cX9_plan 0 = .ok (.aload_n 0, 1) := by decide +kernel
theorem dX9_plan_1 : decode cX9_plan 1 = .ok (.iload_n 1, 1) := by decide +kernel
theorem dX9_plan_2 : decode cX9_plan 2 = .ok (.i2l, 1) := by decide +kernel
theorem dX9_plan_3 : decode cX9_plan 3 = .ok (.invokevirtual 100, 3) := by decide +kernel
theorem dX9_plan_6 : decode cX9_plan 6 = .ok (.ifCond .eq 22, 3) := by decide +kernel
theorem dX9_plan_28 : decode cX9_plan 28 = .ok (.ldc 223, 2) := by decide +kernel
theorem dX9_plan_30 : decode cX9_plan 30 = .ok (.ireturn, 1) := by decide +kernel
theorem dX9_open_0 : decode cX9_open 0 = .ok (.aload_n 0, 1) := by decide +kernel
theorem dX9_open_1 : decode cX9_open 1 = .ok (.getfield 19, 3) := by decide +kernel
theorem dX9_open_4 : decode cX9_open 4 = .ok (.getfield 97, 3) := by decide +kernel
theorem dX9_open_7 : decode cX9_open 7 = .ok (.ifCond .ne 6, 3) := by decide +kernel
theorem dX9_open_10 : decode cX9_open 10 = .ok (.bipush (-2), 2) := by decide +kernel
theorem dX9_open_12 : decode cX9_open 12 = .ok (.ireturn, 1) := by decide +kernel
theorem dX9_duel_0 : decode cX9_duel 0 = .ok (.aload_n 0, 1) := by decide +kernel
theorem dX9_duel_1 : decode cX9_duel 1 = .ok (.iload_n 1, 1) := by decide +kernel
theorem dX9_duel_2 : decode cX9_duel 2 = .ok (.iload_n 2, 1) := by decide +kernel
theorem dX9_duel_3 : decode cX9_duel 3 = .ok (.invokevirtual 141, 3) := by decide +kernel
theorem dX9_duel_6 : decode cX9_duel 6 = .ok (.ifCond .ne 6, 3) := by decide +kernel
theorem dX9_duel_9 : decode cX9_duel 9 = .ok (.bipush (-2), 2) := by decide +kernel
theorem dX9_duel_11 : decode cX9_duel 11 = .ok (.ireturn, 1) := by decide +kernel
theorem dX9_mixed_0 : decode cX9_mixed 0 = .ok (.aload_n 0, 1) := by decide +kernel
theorem dX9_mixed_1 : decode cX9_mixed 1 = .ok (.iload_n 1, 1) := by decide +kernel
theorem dX9_mixed_2 : decode cX9_mixed 2 = .ok (.iload_n 2, 1) := by decide +kernel
theorem dX9_mixed_3 : decode cX9_mixed 3 = .ok (.invokevirtual 141, 3) := by decide +kernel
theorem dX9_mixed_6 : decode cX9_mixed 6 = .ok (.ifCond .ne 6, 3) := by decide +kernel
theorem dX9_mixed_9 : decode cX9_mixed 9 = .ok (.bipush (-2), 2) := by decide +kernel
theorem dX9_mixed_11 : decode cX9_mixed 11 = .ok (.ireturn, 1) := by decide +kernel
theorem dX9_seed_0 : decode cX9_seed 0 = .ok (.iload_n 1, 1) := by decide +kernel
theorem dX9_seed_1 : decode cX9_seed 1 = .ok (.ifCond .lt 10, 3) := by decide +kernel
theorem dX9_seed_4 : decode cX9_seed 4 = .ok (.iload_n 1, 1) := by decide +kernel
theorem dX9_seed_5 : decode cX9_seed 5 = .ok (.ldc_w 397, 3) := by decide +kernel
theorem dX9_seed_8 : decode cX9_seed 8 = .ok (.if_icmp .le 6, 3) := by decide +kernel
theorem dX9_seed_11 : decode cX9_seed 11 = .ok (.bipush (-2), 2) := by decide +kernel
theorem dX9_seed_13 : decode cX9_seed 13 = .ok (.ireturn, 1) := by decide +kernel
theorem dX9_seed_14 : decode cX9_seed 14 = .ok (.aload_n 0, 1) := by decide +kernel
theorem dX9_seed_15 : decode cX9_seed 15 = .ok (.getfield 19, 3) := by decide +kernel
theorem dX9_seed_18 : decode cX9_seed 18 = .ok (.iload_n 1, 1) := by decide +kernel
theorem dX9_seed_19 : decode cX9_seed 19 = .ok (.i2l, 1) := by decide +kernel
theorem dX9_seed_20 : decode cX9_seed 20 = .ok (.putfield 398, 3) := by decide +kernel
theorem dX9_seed_23 : decode cX9_seed 23 = .ok (.iconst 0, 1) := by decide +kernel
theorem dX9_seed_24 : decode cX9_seed 24 = .ok (.ireturn, 1) := by decide +kernel
theorem dX9_count_0 : decode cX9_count 0 = .ok (.iload_n 1, 1) := by decide +kernel
theorem dX9_count_1 : decode cX9_count 1 = .ok (.tableswitch 194 0 12 #[67, 75, 83, 91, 99, 107, 118, 126, 137, 148, 159, 178, 189], 67) := by decide +kernel
theorem dX9_count_68 : decode cX9_count 68 = .ok (.aload_n 0, 1) := by decide +kernel
theorem dX9_count_69 : decode cX9_count 69 = .ok (.getfield 19, 3) := by decide +kernel
theorem dX9_count_72 : decode cX9_count 72 = .ok (.getfield 128, 3) := by decide +kernel
theorem dX9_count_75 : decode cX9_count 75 = .ok (.ireturn, 1) := by decide +kernel
theorem dX9_count_76 : decode cX9_count 76 = .ok (.aload_n 0, 1) := by decide +kernel
theorem dX9_count_77 : decode cX9_count 77 = .ok (.getfield 19, 3) := by decide +kernel
theorem dX9_count_80 : decode cX9_count 80 = .ok (.getfield 97, 3) := by decide +kernel
theorem dX9_count_83 : decode cX9_count 83 = .ok (.ireturn, 1) := by decide +kernel
theorem dX9_count_84 : decode cX9_count 84 = .ok (.aload_n 0, 1) := by decide +kernel
theorem dX9_count_85 : decode cX9_count 85 = .ok (.getfield 19, 3) := by decide +kernel
theorem dX9_count_88 : decode cX9_count 88 = .ok (.getfield 88, 3) := by decide +kernel
theorem dX9_count_91 : decode cX9_count 91 = .ok (.ireturn, 1) := by decide +kernel
theorem dX9_count_92 : decode cX9_count 92 = .ok (.aload_n 0, 1) := by decide +kernel
theorem dX9_count_93 : decode cX9_count 93 = .ok (.getfield 10, 3) := by decide +kernel
theorem dX9_count_96 : decode cX9_count 96 = .ok (.getfield 69, 3) := by decide +kernel
theorem dX9_count_99 : decode cX9_count 99 = .ok (.ireturn, 1) := by decide +kernel
theorem dX9_count_100 : decode cX9_count 100 = .ok (.aload_n 0, 1) := by decide +kernel
theorem dX9_count_101 : decode cX9_count 101 = .ok (.getfield 19, 3) := by decide +kernel
theorem dX9_count_104 : decode cX9_count 104 = .ok (.getfield 374, 3) := by decide +kernel
theorem dX9_count_107 : decode cX9_count 107 = .ok (.ireturn, 1) := by decide +kernel
theorem dX9_count_108 : decode cX9_count 108 = .ok (.aload_n 0, 1) := by decide +kernel
theorem dX9_count_109 : decode cX9_count 109 = .ok (.getfield 19, 3) := by decide +kernel
theorem dX9_count_112 : decode cX9_count 112 = .ok (.getfield 322, 3) := by decide +kernel
theorem dX9_count_115 : decode cX9_count 115 = .ok (.getfield 326, 3) := by decide +kernel
theorem dX9_count_118 : decode cX9_count 118 = .ok (.ireturn, 1) := by decide +kernel
theorem dX9_count_119 : decode cX9_count 119 = .ok (.aload_n 0, 1) := by decide +kernel
