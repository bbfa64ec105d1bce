theorem dX10_sight_12 : decode cX10_sight 12 = .ok (.ldc2_w 287, 3) := by decide +kernel
theorem dX10_sight_15 : decode cX10_sight 15 = .ok (.invokestatic 98, 3) := by decide +kernel
theorem dX10_sight_18 : decode cX10_sight 18 = .ok (.ifCond .ne 6, 3) := by decide +kernel
theorem dX10_sight_21 : decode cX10_sight 21 = .ok (.bipush (-2), 2) := by decide +kernel
theorem dX10_sight_23 : decode cX10_sight 23 = .ok (.ireturn, 1) := by decide +kernel
theorem dX10_sight_24 : decode cX10_sight 24 = .ok (.aload_n 0, 1) := by decide +kernel
theorem dX10_sight_25 : decode cX10_sight 25 = .ok (.getfield 13, 3) := by decide +kernel
theorem dX10_sight_28 : decode cX10_sight 28 = .ok (.bipush 96, 2) := by decide +kernel
theorem dX10_sight_30 : decode cX10_sight 30 = .ok (.bipush 8, 2) := by decide +kernel
theorem dX10_sight_32 : decode cX10_sight 32 = .ok (.iload_n 1, 1) := by decide +kernel
theorem dX10_sight_33 : decode cX10_sight 33 = .ok (.imul, 1) := by decide +kernel
theorem dX10_sight_34 : decode cX10_sight 34 = .ok (.iadd, 1) := by decide +kernel
theorem dX10_sight_35 : decode cX10_sight 35 = .ok (.iload_n 2, 1) := by decide +kernel
theorem dX10_sight_36 : decode cX10_sight 36 = .ok (.iadd, 1) := by decide +kernel
theorem dX10_sight_37 : decode cX10_sight 37 = .ok (.iaload, 1) := by decide +kernel
theorem dX10_sight_38 : decode cX10_sight 38 = .ok (.istore 4, 2) := by decide +kernel
theorem dX10_sight_40 : decode cX10_sight 40 = .ok (.aload_n 0, 1) := by decide +kernel
theorem dX10_sight_41 : decode cX10_sight 41 = .ok (.getfield 13, 3) := by decide +kernel
theorem dX10_sight_44 : decode cX10_sight 44 = .ok (.bipush 96, 2) := by decide +kernel
theorem dX10_sight_46 : decode cX10_sight 46 = .ok (.bipush 8, 2) := by decide +kernel
theorem dX10_sight_48 : decode cX10_sight 48 = .ok (.iload_n 1, 1) := by decide +kernel
theorem dX10_sight_49 : decode cX10_sight 49 = .ok (.imul, 1) := by decide +kernel
theorem dX10_sight_50 : decode cX10_sight 50 = .ok (.iadd, 1) := by decide +kernel
theorem dX10_sight_51 : decode cX10_sight 51 = .ok (.iload_n 2, 1) := by decide +kernel
theorem dX10_sight_52 : decode cX10_sight 52 = .ok (.iadd, 1) := by decide +kernel
theorem dX10_sight_53 : decode cX10_sight 53 = .ok (.iload_n 3, 1) := by decide +kernel
theorem dX10_sight_54 : decode cX10_sight 54 = .ok (.iastore, 1) := by decide +kernel
theorem dX10_sight_55 : decode cX10_sight 55 = .ok (.iload 4, 2) := by decide +kernel
theorem dX10_sight_57 : decode cX10_sight 57 = .ok (.ireturn, 1) := by decide +kernel
theorem dX10_tops_0 : decode cX10_tops 0 = .ok (.aload_n 0, 1) := by decide +kernel
theorem dX10_tops_1 : decode cX10_tops 1 = .ok (.invokevirtual 295, 3) := by decide +kernel
theorem dX10_tops_4 : decode cX10_tops 4 = .ok (.ifCond .le 10, 3) := by decide +kernel
theorem dX10_tops_7 : decode cX10_tops 7 = .ok (.aload_n 0, 1) := by decide +kernel
theorem dX10_tops_8 : decode cX10_tops 8 = .ok (.invokevirtual 304, 3) := by decide +kernel
theorem dX10_tops_11 : decode cX10_tops 11 = .ok (.goto 5, 3) := by decide +kernel
theorem dX10_tops_14 : decode cX10_tops 14 = .ok (.bipush (-2), 2) := by decide +kernel
theorem dX10_tops_16 : decode cX10_tops 16 = .ok (.ireturn, 1) := by decide +kernel
theorem dX10_next_0 : decode cX10_next 0 = .ok (.aload_n 0, 1) := by decide +kernel
theorem dX10_next_1 : decode cX10_next 1 = .ok (.invokevirtual 295, 3) := by decide +kernel
theorem dX10_next_4 : decode cX10_next 4 = .ok (.ifCond .le 10, 3) := by decide +kernel
theorem dX10_next_7 : decode cX10_next 7 = .ok (.aload_n 0, 1) := by decide +kernel
theorem dX10_next_8 : decode cX10_next 8 = .ok (.invokevirtual 310, 3) := by decide +kernel
theorem dX10_next_11 : decode cX10_next 11 = .ok (.goto 5, 3) := by decide +kernel
theorem dX10_next_14 : decode cX10_next 14 = .ok (.bipush (-2), 2) := by decide +kernel
theorem dX10_next_16 : decode cX10_next 16 = .ok (.ireturn, 1) := by decide +kernel
theorem dX10_loses_0 : decode cX10_loses 0 = .ok (.aload_n 0, 1) := by decide +kernel
theorem dX10_loses_1 : decode cX10_loses 1 = .ok (.iload_n 1, 1) := by decide +kernel
theorem dX10_loses_2 : decode cX10_loses 2 = .ok (.invokevirtual 106, 3) := by decide +kernel
theorem dX10_loses_5 : decode cX10_loses 5 = .ok (.ifCond .eq 11, 3) := by decide +kernel
theorem dX10_loses_8 : decode cX10_loses 8 = .ok (.aload_n 0, 1) := by decide +kernel
theorem dX10_loses_9 : decode cX10_loses 9 = .ok (.iload_n 1, 1) := by decide +kernel
theorem dX10_loses_10 : decode cX10_loses 10 = .ok (.invokevirtual 316, 3) := by decide +kernel
theorem dX10_loses_13 : decode cX10_loses 13 = .ok (.goto 5, 3) := by decide +kernel
theorem dX10_loses_16 : decode cX10_loses 16 = .ok (.bipush (-2), 2) := by decide +kernel
theorem dX10_loses_18 : decode cX10_loses 18 = .ok (.ireturn, 1) := by decide +kernel
theorem dX10_stroke_0 : decode cX10_stroke 0 = .ok (.aload_n 0, 1) := by decide +kernel
theorem dX10_stroke_1 : decode cX10_stroke 1 = .ok (.invokevirtual 295, 3) := by decide +kernel
theorem dX10_stroke_4 : decode cX10_stroke 4 = .ok (.ifCond .le 10, 3) := by decide +kernel
theorem dX10_stroke_7 : decode cX10_stroke 7 = .ok (.aload_n 0, 1) := by decide +kernel
theorem dX10_stroke_8 : decode cX10_stroke 8 = .ok (.invokevirtual 337, 3) := by decide +kernel
theorem dX10_stroke_11 : decode cX10_stroke 11 = .ok (.goto 5, 3) := by decide +kernel
theorem dX10_stroke_14 : decode cX10_stroke 14 = .ok (.bipush (-2), 2) := by decide +kernel
theorem dX10_stroke_16 : decode cX10_stroke 16 = .ok (.ireturn, 1) := by decide +kernel
theorem dX10_why_0 : decode cX10_why 0 = .ok (.aload_n 0, 1) := by decide +kernel
theorem dX10_why_1 : decode cX10_why 1 = .ok (.iload_n 1, 1) := by decide +kernel
theorem dX10_why_2 : decode cX10_why 2 = .ok (.invokevirtual 106, 3) := by decide +kernel
theorem dX10_why_5 : decode cX10_why 5 = .ok (.ifCond .eq 50, 3) := by decide +kernel
theorem dX10_why_8 : decode cX10_why 8 = .ok (.iload_n 2, 1) := by decide +kernel
theorem dX10_why_9 : decode cX10_why 9 = .ok (.i2l, 1) := by decide +kernel
theorem dX10_why_10 : decode cX10_why 10 = .ok (.lconst 0, 1) := by decide +kernel
theorem dX10_why_11 : decode cX10_why 11 = .ok (.lconst 1, 1) := by decide +kernel
theorem dX10_why_12 : decode cX10_why 12 = .ok (.invokestatic 98, 3) := by decide +kernel
theorem dX10_why_15 : decode cX10_why 15 = .ok (.ifCond .eq 40, 3) := by decide +kernel
theorem dX10_why_18 : decode cX10_why 18 = .ok (.iload_n 3, 1) := by decide +kernel
theorem dX10_why_19 : decode cX10_why 19 = .ok (.ifCond .lt 36, 3) := by decide +kernel
theorem dX10_why_22 : decode cX10_why 22 = .ok (.iload 4, 2) := by decide +kernel
theorem dX10_why_24 : decode cX10_why 24 = .ok (.ifCond .lt 31, 3) := by decide +kernel
theorem dX10_why_27 : decode cX10_why 27 = .ok (.iload 4, 2) := by decide +kernel
theorem dX10_why_29 : decode cX10_why 29 = .ok (.ifCond .ne 12, 3) := by decide +kernel
theorem dX10_why_32 : decode cX10_why 32 = .ok (.iload 5, 2) := by decide +kernel
theorem dX10_why_34 : decode cX10_why 34 = .ok (.iconst (-1), 1) := by decide +kernel
theorem dX10_why_35 : decode cX10_why 35 = .ok (.if_icmp .ne 20, 3) := by decide +kernel
theorem dX10_why_38 : decode cX10_why 38 = .ok (.goto 13, 3) := by decide +kernel
theorem dX10_why_41 : decode cX10_why 41 = .ok (.aload_n 0, 1) := by decide +kernel
theorem dX10_why_42 : decode cX10_why 42 = .ok (.iload_n 1, 1) := by decide +kernel
theorem dX10_why_43 : decode cX10_why 43 = .ok (.iload 5, 2) := by decide +kernel
theorem dX10_why_45 : decode cX10_why 45 = .ok (.invokevirtual 289, 3) := by decide +kernel
theorem dX10_why_48 : decode cX10_why 48 = .ok (.ifCond .eq 7, 3) := by decide +kernel
theorem dX10_why_51 : decode cX10_why 51 = .ok (.iconst 1, 1) := by decide +kernel
theorem dX10_why_52 : decode cX10_why 52 = .ok (.goto 4, 3) := by decide +kernel
theorem dX10_why_55 : decode cX10_why 55 = .ok (.iconst 0, 1) := by decide +kernel
theorem dX10_why_56 : decode cX10_why 56 = .ok (.istore 6, 2) := by decide +kernel
theorem dX10_why_58 : decode cX10_why 58 = .ok (.iload 6, 2) := by decide +kernel
theorem dX10_why_60 : decode cX10_why 60 = .ok (.ifCond .ne 8, 3) := by decide +kernel
theorem dX10_why_63 : decode cX10_why 63 = .ok (.bipush (-2), 2) := by decide +kernel
theorem dX10_why_65 : decode cX10_why 65 = .ok (.goto 26, 3) := by decide +kernel
theorem dX10_why_68 : decode cX10_why 68 = .ok (.iload_n 3, 1) := by decide +kernel
theorem dX10_why_69 : decode cX10_why 69 = .ok (.i2l, 1) := by decide +kernel
theorem dX10_why_70 : decode cX10_why 70 = .ok (.iload 4, 2) := by decide +kernel
theorem dX10_why_72 : decode cX10_why 72 = .ok (.i2l, 1) := by decide +kernel
theorem dX10_why_73 : decode cX10_why 73 = .ok (.ladd, 1) := by decide +kernel
theorem dX10_why_74 : decode cX10_why 74 = .ok (.aload_n 0, 1) := by decide +kernel
theorem dX10_why_75 : decode cX10_why 75 = .ok (.iload_n 1, 1) := by decide +kernel
theorem dX10_why_76 : decode cX10_why 76 = .ok (.iload_n 2, 1) := by decide +kernel
theorem dX10_why_77 : decode cX10_why 77 = .ok (.invokevirtual 340, 3) := by decide +kernel
theorem dX10_why_80 : decode cX10_why 80 = .ok (.i2l, 1) := by decide +kernel
theorem dX10_why_81 : decode cX10_why 81 = .ok (.lcmp, 1) := by decide +kernel
theorem dX10_why_82 : decode cX10_why 82 = .ok (.ifCond .le 8, 3) := by decide +kernel
theorem dX10_why_85 : decode cX10_why 85 = .ok (.bipush (-5), 2) := by decide +kernel
theorem dX10_why_87 : decode cX10_why 87 = .ok (.goto 4, 3) := by decide +kernel
theorem dX10_why_90 : decode cX10_why 90 = .ok (.iconst 0, 1) := by decide +kernel
theorem dX10_why_91 : decode cX10_why 91 = .ok (.ireturn, 1) := by decide +kernel
theorem dX10_act_0 : decode cX10_act 0 = .ok (.aload_n 0, 1) := by decide +kernel
theorem dX10_act_1 : decode cX10_act 1 = .ok (.iload_n 1, 1) := by decide +kernel
theorem dX10_act_2 : decode cX10_act 2 = .ok (.iload_n 2, 1) := by decide +kernel
theorem dX10_act_3 : decode cX10_act 3 = .ok (.iload_n 3, 1) := by decide +kernel
theorem dX10_act_4 : decode cX10_act 4 = .ok (.iload 4, 2) := by decide +kernel
theorem dX10_act_6 : decode cX10_act 6 = .ok (.iload 5, 2) := by decide +kernel
theorem dX10_act_8 : decode cX10_act 8 = .ok (.invokevirtual 343, 3) := by decide +kernel
theorem dX10_act_11 : decode cX10_act 11 = .ok (.istore 6, 2) := by decide +kernel
theorem dX10_act_13 : decode cX10_act 13 = .ok (.iload 6, 2) := by decide +kernel
theorem dX10_act_15 : decode cX10_act 15 = .ok (.ifCond .ge 6, 3) := by decide +kernel
theorem dX10_act_18 : decode cX10_act 18 = .ok (.iload 6, 2) := by decide +kernel
theorem dX10_act_20 : decode cX10_act 20 = .ok (.ireturn, 1) := by decide +kernel
theorem dX10_act_21 : decode cX10_act 21 = .ok (.aload_n 0, 1) := by decide +kernel
theorem dX10_act_22 : decode cX10_act 22 = .ok (.iload_n 1, 1) := by decide +kernel
theorem dX10_act_23 : decode cX10_act 23 = .ok (.iload_n 2, 1) := by decide +kernel
theorem dX10_act_24 : decode cX10_act 24 = .ok (.iload_n 3, 1) := by decide +kernel
theorem dX10_act_25 : decode cX10_act 25 = .ok (.iload 4, 2) := by decide +kernel
theorem dX10_act_27 : decode cX10_act 27 = .ok (.iload 5, 2) := by decide +kernel
theorem dX10_act_29 : decode cX10_act 29 = .ok (.invokevirtual 347, 3) := by decide +kernel
theorem dX10_act_32 : decode cX10_act 32 = .ok (.aload_n 0, 1) := by decide +kernel
theorem dX10_act_33 : decode cX10_act 33 = .ok (.iload_n 1, 1) := by decide +kernel
theorem dX10_act_34 : decode cX10_act 34 = .ok (.iconst 4, 1) := by decide +kernel
theorem dX10_act_35 : decode cX10_act 35 = .ok (.aload_n 0, 1) := by decide +kernel
theorem dX10_act_36 : decode cX10_act 36 = .ok (.iload_n 1, 1) := by decide +kernel
theorem dX10_act_37 : decode cX10_act 37 = .ok (.iconst 4, 1) := by decide +kernel
theorem dX10_act_38 : decode cX10_act 38 = .ok (.invokevirtual 276, 3) := by decide +kernel
theorem dX10_act_41 : decode cX10_act 41 = .ok (.aload_n 0, 1) := by decide +kernel
theorem dX10_act_42 : decode cX10_act 42 = .ok (.iload_n 1, 1) := by decide +kernel
theorem dX10_act_43 : decode cX10_act 43 = .ok (.iload_n 3, 1) := by decide +kernel
theorem dX10_act_44 : decode cX10_act 44 = .ok (.invokevirtual 351, 3) := by decide +kernel
theorem dX10_act_47 : decode cX10_act 47 = .ok (.iadd, 1) := by decide +kernel
theorem dX10_act_48 : decode cX10_act 48 = .ok (.iload_n 2, 1) := by decide +kernel
theorem dX10_act_49 : decode cX10_act 49 = .ok (.aload_n 0, 1) := by decide +kernel
theorem dX10_act_50 : decode cX10_act 50 = .ok (.iload_n 1, 1) := by decide +kernel
theorem dX10_act_51 : decode cX10_act 51 = .ok (.bipush 6, 2) := by decide +kernel
theorem dX10_act_53 : decode cX10_act 53 = .ok (.invokevirtual 276, 3) := by decide +kernel
theorem dX10_act_56 : decode cX10_act 56 = .ok (.imul, 1) := by decide +kernel
theorem dX10_act_57 : decode cX10_act 57 = .ok (.isub, 1) := by decide +kernel
theorem dX10_act_58 : decode cX10_act 58 = .ok (.invokevirtual 272, 3) := by decide +kernel
theorem dX10_act_61 : decode cX10_act 61 = .ok (.aload_n 0, 1) := by decide +kernel
theorem dX10_act_62 : decode cX10_act 62 = .ok (.iload_n 1, 1) := by decide +kernel
theorem dX10_act_63 : decode cX10_act 63 = .ok (.iconst 0, 1) := by decide +kernel
theorem dX10_act_64 : decode cX10_act 64 = .ok (.invokevirtual 276, 3) := by decide +kernel
theorem dX10_act_67 : decode cX10_act 67 = .ok (.ireturn, 1) := by decide +kernel
theorem dX10_judge_0 : decode cX10_judge 0 = .ok (.iload_n 1, 1) := by decide +kernel
theorem dX10_judge_1 : decode cX10_judge 1 = .ok (.invokestatic 357, 3) := by decide +kernel
theorem dX10_judge_4 : decode cX10_judge 4 = .ok (.ifCond .ne 6, 3) := by decide +kernel
theorem dX10_judge_7 : decode cX10_judge 7 = .ok (.bipush (-2), 2) := by decide +kernel
theorem dX10_judge_9 : decode cX10_judge 9 = .ok (.ireturn, 1) := by decide +kernel
theorem dX10_judge_10 : decode cX10_judge 10 = .ok (.aload_n 0, 1) := by decide +kernel
theorem dX10_judge_11 : decode cX10_judge 11 = .ok (.getfield 80, 3) := by decide +kernel
theorem dX10_judge_14 : decode cX10_judge 14 = .ok (.iload_n 1, 1) := by decide +kernel
theorem dX10_judge_15 : decode cX10_judge 15 = .ok (.iaload, 1) := by decide +kernel
theorem dX10_judge_16 : decode cX10_judge 16 = .ok (.iconst (-1), 1) := by decide +kernel
theorem dX10_judge_17 : decode cX10_judge 17 = .ok (.if_icmp .ne 6, 3) := by decide +kernel
theorem dX10_judge_20 : decode cX10_judge 20 = .ok (.bipush (-6), 2) := by decide +kernel
theorem dX10_judge_22 : decode cX10_judge 22 = .ok (.ireturn, 1) := by decide +kernel
theorem dX10_judge_23 : decode cX10_judge 23 = .ok (.aload_n 0, 1) := by decide +kernel
theorem dX10_judge_24 : decode cX10_judge 24 = .ok (.invokevirtual 360, 3) := by decide +kernel
theorem dX10_judge_27 : decode cX10_judge 27 = .ok (.iconst 0, 1) := by decide +kernel
theorem dX10_judge_28 : decode cX10_judge 28 = .ok (.istore_n 2, 1) := by decide +kernel
theorem dX10_judge_29 : decode cX10_judge 29 = .ok (.iconst 1, 1) := by decide +kernel
theorem dX10_judge_30 : decode cX10_judge 30 = .ok (.istore_n 3, 1) := by decide +kernel
theorem dX10_judge_31 : decode cX10_judge 31 = .ok (.iload_n 3, 1) := by decide +kernel
theorem dX10_judge_32 : decode cX10_judge 32 = .ok (.ifCond .eq 202, 3) := by decide +kernel
theorem dX10_judge_35 : decode cX10_judge 35 = .ok (.iconst 5, 1) := by decide +kernel
theorem dX10_judge_36 : decode cX10_judge 36 = .ok (.iload_n 2, 1) := by decide +kernel
theorem dX10_judge_37 : decode cX10_judge 37 = .ok (.imul, 1) := by decide +kernel
theorem dX10_judge_38 : decode cX10_judge 38 = .ok (.iconst 5, 1) := by decide +kernel
theorem dX10_judge_39 : decode cX10_judge 39 = .ok (.iadd, 1) := by decide +kernel
theorem dX10_judge_40 : decode cX10_judge 40 = .ok (.aload_n 0, 1) := by decide +kernel
theorem dX10_judge_41 : decode cX10_judge 41 = .ok (.getfield 80, 3) := by decide +kernel
theorem dX10_judge_44 : decode cX10_judge 44 = .ok (.iload_n 1, 1) := by decide +kernel
theorem dX10_judge_45 : decode cX10_judge 45 = .ok (.iaload, 1) := by decide +kernel
theorem dX10_judge_46 : decode cX10_judge 46 = .ok (.if_icmp .gt 188, 3) := by decide +kernel
theorem dX10_judge_49 : decode cX10_judge 49 = .ok (.iconst 0, 1) := by decide +kernel
theorem dX10_judge_50 : decode cX10_judge 50 = .ok (.istore 4, 2) := by decide +kernel
theorem dX10_judge_52 : decode cX10_judge 52 = .ok (.iload 4, 2) := by decide +kernel
theorem dX10_judge_54 : decode cX10_judge 54 = .ok (.iconst 5, 1) := by decide +kernel
theorem dX10_judge_55 : decode cX10_judge 55 = .ok (.if_icmp .ge 39, 3) := by decide +kernel
theorem dX10_judge_58 : decode cX10_judge 58 = .ok (.iload_n 3, 1) := by decide +kernel
theorem dX10_judge_59 : decode cX10_judge 59 = .ok (.ifCond .eq 35, 3) := by decide +kernel
theorem dX10_judge_62 : decode cX10_judge 62 = .ok (.aload_n 0, 1) := by decide +kernel
theorem dX10_judge_63 : decode cX10_judge 63 = .ok (.getfield 86, 3) := by decide +kernel
theorem dX10_judge_66 : decode cX10_judge 66 = .ok (.bipush 60, 2) := by decide +kernel
theorem dX10_judge_68 : decode cX10_judge 68 = .ok (.iload_n 1, 1) := by decide +kernel
theorem dX10_judge_69 : decode cX10_judge 69 = .ok (.imul, 1) := by decide +kernel
theorem dX10_judge_70 : decode cX10_judge 70 = .ok (.iconst 5, 1) := by decide +kernel
theorem dX10_judge_71 : decode cX10_judge 71 = .ok (.iload_n 2, 1) := by decide +kernel
theorem dX10_judge_72 : decode cX10_judge 72 = .ok (.imul, 1) := by decide +kernel
theorem dX10_judge_73 : decode cX10_judge 73 = .ok (.iadd, 1) := by decide +kernel
theorem dX10_judge_74 : decode cX10_judge 74 = .ok (.iload 4, 2) := by decide +kernel
theorem dX10_judge_76 : decode cX10_judge 76 = .ok (.iadd, 1) := by decide +kernel
theorem dX10_judge_77 : decode cX10_judge 77 = .ok (.laload, 1) := by decide +kernel
theorem dX10_judge_78 : decode cX10_judge 78 = .ok (.ldc2_w 363, 3) := by decide +kernel
theorem dX10_judge_81 : decode cX10_judge 81 = .ok (.ldc2_w 365, 3) := by decide +kernel
theorem dX10_judge_84 : decode cX10_judge 84 = .ok (.invokestatic 98, 3) := by decide +kernel
theorem dX10_judge_87 : decode cX10_judge 87 = .ok (.istore_n 3, 1) := by decide +kernel
theorem dX10_judge_88 : decode cX10_judge 88 = .ok (.iinc 4 1, 3) := by decide +kernel
theorem dX10_judge_91 : decode cX10_judge 91 = .ok (.goto (-39), 3) := by decide +kernel
theorem dX10_judge_94 : decode cX10_judge 94 = .ok (.bipush 60, 2) := by decide +kernel
theorem dX10_judge_96 : decode cX10_judge 96 = .ok (.iload_n 1, 1) := by decide +kernel
theorem dX10_judge_97 : decode cX10_judge 97 = .ok (.imul, 1) := by decide +kernel
theorem dX10_judge_98 : decode cX10_judge 98 = .ok (.iconst 5, 1) := by decide +kernel
theorem dX10_judge_99 : decode cX10_judge 99 = .ok (.iload_n 2, 1) := by decide +kernel
theorem dX10_judge_100 : decode cX10_judge 100 = .ok (.imul, 1) := by decide +kernel
theorem dX10_judge_101 : decode cX10_judge 101 = .ok (.iadd, 1) := by decide +kernel
theorem dX10_judge_102 : decode cX10_judge 102 = .ok (.istore 4, 2) := by decide +kernel
theorem dX10_judge_104 : decode cX10_judge 104 = .ok (.iload_n 3, 1) := by decide +kernel
theorem dX10_judge_105 : decode cX10_judge 105 = .ok (.ifCond .eq 62, 3) := by decide +kernel
theorem dX10_judge_108 : decode cX10_judge 108 = .ok (.aload_n 0, 1) := by decide +kernel
theorem dX10_judge_109 : decode cX10_judge 109 = .ok (.aload_n 0, 1) := by decide +kernel
theorem dX10_judge_110 : decode cX10_judge 110 = .ok (.getfield 86, 3) := by decide +kernel
theorem dX10_judge_113 : decode cX10_judge 113 = .ok (.iload 4, 2) := by decide +kernel
theorem dX10_judge_115 : decode cX10_judge 115 = .ok (.laload, 1) := by decide +kernel
theorem dX10_judge_116 : decode cX10_judge 116 = .ok (.l2i, 1) := by decide +kernel
theorem dX10_judge_117 : decode cX10_judge 117 = .ok (.aload_n 0, 1) := by decide +kernel
theorem dX10_judge_118 : decode cX10_judge 118 = .ok (.getfield 86, 3) := by decide +kernel
theorem dX10_judge_121 : decode cX10_judge 121 = .ok (.iload 4, 2) := by decide +kernel
theorem dX10_judge_123 : decode cX10_judge 123 = .ok (.iconst 1, 1) := by decide +kernel
theorem dX10_judge_124 : decode cX10_judge 124 = .ok (.iadd, 1) := by decide +kernel
theorem dX10_judge_125 : decode cX10_judge 125 = .ok (.laload, 1) := by decide +kernel
theorem dX10_judge_126 : decode cX10_judge 126 = .ok (.l2i, 1) := by decide +kernel
theorem dX10_judge_127 : decode cX10_judge 127 = .ok (.aload_n 0, 1) := by decide +kernel
theorem dX10_judge_128 : decode cX10_judge 128 = .ok (.getfield 86, 3) := by decide +kernel
theorem dX10_judge_131 : decode cX10_judge 131 = .ok (.iload 4, 2) := by decide +kernel
theorem dX10_judge_133 : decode cX10_judge 133 = .ok (.iconst 2, 1) := by decide +kernel
theorem dX10_judge_134 : decode cX10_judge 134 = .ok (.iadd, 1) := by decide +kernel
theorem dX10_judge_135 : decode cX10_judge 135 = .ok (.laload, 1) := by decide +kernel
theorem dX10_judge_136 : decode cX10_judge 136 = .ok (.l2i, 1) := by decide +kernel
theorem dX10_judge_137 : decode cX10_judge 137 = .ok (.aload_n 0, 1) := by decide +kernel
theorem dX10_judge_138 : decode cX10_judge 138 = .ok (.getfield 86, 3) := by decide +kernel
theorem dX10_judge_141 : decode cX10_judge 141 = .ok (.iload 4, 2) := by decide +kernel
theorem dX10_judge_143 : decode cX10_judge 143 = .ok (.iconst 3, 1) := by decide +kernel
theorem dX10_judge_144 : decode cX10_judge 144 = .ok (.iadd, 1) := by decide +kernel
theorem dX10_judge_145 : decode cX10_judge 145 = .ok (.laload, 1) := by decide +kernel
theorem dX10_judge_146 : decode cX10_judge 146 = .ok (.l2i, 1) := by decide +kernel
theorem dX10_judge_147 : decode cX10_judge 147 = .ok (.aload_n 0, 1) := by decide +kernel
theorem dX10_judge_148 : decode cX10_judge 148 = .ok (.getfield 86, 3) := by decide +kernel
theorem dX10_judge_151 : decode cX10_judge 151 = .ok (.iload 4, 2) := by decide +kernel
theorem dX10_judge_153 : decode cX10_judge 153 = .ok (.iconst 4, 1) := by decide +kernel
theorem dX10_judge_154 : decode cX10_judge 154 = .ok (.iadd, 1) := by decide +kernel
theorem dX10_judge_155 : decode cX10_judge 155 = .ok (.laload, 1) := by decide +kernel
theorem dX10_judge_156 : decode cX10_judge 156 = .ok (.l2i, 1) := by decide +kernel
theorem dX10_judge_157 : decode cX10_judge 157 = .ok (.invokevirtual 343, 3) := by decide +kernel
theorem dX10_judge_160 : decode cX10_judge 160 = .ok (.ifCond .ne 7, 3) := by decide +kernel
theorem dX10_judge_163 : decode cX10_judge 163 = .ok (.iconst 1, 1) := by decide +kernel
theorem dX10_judge_164 : decode cX10_judge 164 = .ok (.goto 4, 3) := by decide +kernel
theorem dX10_judge_167 : decode cX10_judge 167 = .ok (.iconst 0, 1) := by decide +kernel
theorem dX10_judge_168 : decode cX10_judge 168 = .ok (.istore_n 3, 1) := by decide +kernel
theorem dX10_judge_169 : decode cX10_judge 169 = .ok (.iload_n 3, 1) := by decide +kernel
theorem dX10_judge_170 : decode cX10_judge 170 = .ok (.ifCond .ne 6, 3) := by decide +kernel
theorem dX10_judge_173 : decode cX10_judge 173 = .ok (.goto (-142), 3) := by decide +kernel
theorem dX10_judge_176 : decode cX10_judge 176 = .ok (.aload_n 0, 1) := by decide +kernel
theorem dX10_judge_177 : decode cX10_judge 177 = .ok (.aload_n 0, 1) := by decide +kernel
theorem dX10_judge_178 : decode cX10_judge 178 = .ok (.getfield 86, 3) := by decide +kernel
theorem dX10_judge_181 : decode cX10_judge 181 = .ok (.iload 4, 2) := by decide +kernel
theorem dX10_judge_183 : decode cX10_judge 183 = .ok (.laload, 1) := by decide +kernel
theorem dX10_judge_184 : decode cX10_judge 184 = .ok (.l2i, 1) := by decide +kernel
theorem dX10_judge_185 : decode cX10_judge 185 = .ok (.aload_n 0, 1) := by decide +kernel
theorem dX10_judge_186 : decode cX10_judge 186 = .ok (.getfield 86, 3) := by decide +kernel
theorem dX10_judge_189 : decode cX10_judge 189 = .ok (.iload 4, 2) := by decide +kernel
theorem dX10_judge_191 : decode cX10_judge 191 = .ok (.iconst 1, 1) := by decide +kernel
theorem dX10_judge_192 : decode cX10_judge 192 = .ok (.iadd, 1) := by decide +kernel
theorem dX10_judge_193 : decode cX10_judge 193 = .ok (.laload, 1) := by decide +kernel
theorem dX10_judge_194 : decode cX10_judge 194 = .ok (.l2i, 1) := by decide +kernel
theorem dX10_judge_195 : decode cX10_judge 195 = .ok (.aload_n 0, 1) := by decide +kernel
theorem dX10_judge_196 : decode cX10_judge 196 = .ok (.getfield 86, 3) := by decide +kernel
theorem dX10_judge_199 : decode cX10_judge 199 = .ok (.iload 4, 2) := by decide +kernel
theorem dX10_judge_201 : decode cX10_judge 201 = .ok (.iconst 2, 1) := by decide +kernel
theorem dX10_judge_202 : decode cX10_judge 202 = .ok (.iadd, 1) := by decide +kernel
theorem dX10_judge_203 : decode cX10_judge 203 = .ok (.laload, 1) := by decide +kernel
theorem dX10_judge_204 : decode cX10_judge 204 = .ok (.l2i, 1) := by decide +kernel
theorem dX10_judge_205 : decode cX10_judge 205 = .ok (.aload_n 0, 1) := by decide +kernel
theorem dX10_judge_206 : decode cX10_judge 206 = .ok (.getfield 86, 3) := by decide +kernel
theorem dX10_judge_209 : decode cX10_judge 209 = .ok (.iload 4, 2) := by decide +kernel
theorem dX10_judge_211 : decode cX10_judge 211 = .ok (.iconst 3, 1) := by decide +kernel
theorem dX10_judge_212 : decode cX10_judge 212 = .ok (.iadd, 1) := by decide +kernel
theorem dX10_judge_213 : decode cX10_judge 213 = .ok (.laload, 1) := by decide +kernel
theorem dX10_judge_214 : decode cX10_judge 214 = .ok (.l2i, 1) := by decide +kernel
theorem dX10_judge_215 : decode cX10_judge 215 = .ok (.aload_n 0, 1) := by decide +kernel
theorem dX10_judge_216 : decode cX10_judge 216 = .ok (.getfield 86, 3) := by decide +kernel
theorem dX10_judge_219 : decode cX10_judge 219 = .ok (.iload 4, 2) := by decide +kernel
theorem dX10_judge_221 : decode cX10_judge 221 = .ok (.iconst 4, 1) := by decide +kernel
theorem dX10_judge_222 : decode cX10_judge 222 = .ok (.iadd, 1) := by decide +kernel
theorem dX10_judge_223 : decode cX10_judge 223 = .ok (.laload, 1) := by decide +kernel
theorem dX10_judge_224 : decode cX10_judge 224 = .ok (.l2i, 1) := by decide +kernel
theorem dX10_judge_225 : decode cX10_judge 225 = .ok (.invokevirtual 347, 3) := by decide +kernel
theorem dX10_judge_228 : decode cX10_judge 228 = .ok (.iinc 2 1, 3) := by decide +kernel
theorem dX10_judge_231 : decode cX10_judge 231 = .ok (.goto (-200), 3) := by decide +kernel
theorem dX10_judge_234 : decode cX10_judge 234 = .ok (.aload_n 0, 1) := by decide +kernel
theorem dX10_judge_235 : decode cX10_judge 235 = .ok (.invokevirtual 367, 3) := by decide +kernel
theorem dX10_judge_238 : decode cX10_judge 238 = .ok (.iload_n 2, 1) := by decide +kernel
theorem dX10_judge_239 : decode cX10_judge 239 = .ok (.ireturn, 1) := by decide +kernel
theorem dX10_value_0 : decode cX10_value 0 = .ok (.aload_n 0, 1) := by decide +kernel
theorem dX10_value_1 : decode cX10_value 1 = .ok (.iload_n 1, 1) := by decide +kernel
theorem dX10_value_2 : decode cX10_value 2 = .ok (.iload_n 2, 1) := by decide +kernel
theorem dX10_value_3 : decode cX10_value 3 = .ok (.iload_n 3, 1) := by decide +kernel
theorem dX10_value_4 : decode cX10_value 4 = .ok (.iload 4, 2) := by decide +kernel
theorem dX10_value_6 : decode cX10_value 6 = .ok (.iload 5, 2) := by decide +kernel
theorem dX10_value_8 : decode cX10_value 8 = .ok (.invokevirtual 343, 3) := by decide +kernel
theorem dX10_value_11 : decode cX10_value 11 = .ok (.ifCond .ge 7, 3) := by decide +kernel
theorem dX10_value_14 : decode cX10_value 14 = .ok (.ldc_w 388, 3) := by decide +kernel
theorem dX10_value_17 : decode cX10_value 17 = .ok (.ireturn, 1) := by decide +kernel
theorem dX10_value_18 : decode cX10_value 18 = .ok (.aload_n 0, 1) := by decide +kernel
theorem dX10_value_19 : decode cX10_value 19 = .ok (.iload_n 1, 1) := by decide +kernel
theorem dX10_value_20 : decode cX10_value 20 = .ok (.invokevirtual 389, 3) := by decide +kernel
theorem dX10_value_23 : decode cX10_value 23 = .ok (.aload_n 0, 1) := by decide +kernel
theorem dX10_value_24 : decode cX10_value 24 = .ok (.iload_n 1, 1) := by decide +kernel
theorem dX10_value_25 : decode cX10_value 25 = .ok (.iload_n 2, 1) := by decide +kernel
theorem dX10_value_26 : decode cX10_value 26 = .ok (.iload_n 3, 1) := by decide +kernel
theorem dX10_value_27 : decode cX10_value 27 = .ok (.iload 4, 2) := by decide +kernel
theorem dX10_value_29 : decode cX10_value 29 = .ok (.iload 5, 2) := by decide +kernel
theorem dX10_value_31 : decode cX10_value 31 = .ok (.invokevirtual 392, 3) := by decide +kernel
theorem dX10_value_34 : decode cX10_value 34 = .ok (.ireturn, 1) := by decide +kernel
theorem dX10_best_0 : decode cX10_best 0 = .ok (.iload_n 2, 1) := by decide +kernel
theorem dX10_best_1 : decode cX10_best 1 = .ok (.i2l, 1) := by decide +kernel
theorem dX10_best_2 : decode cX10_best 2 = .ok (.lconst 0, 1) := by decide +kernel
theorem dX10_best_3 : decode cX10_best 3 = .ok (.ldc2_w 398, 3) := by decide +kernel
theorem dX10_best_6 : decode cX10_best 6 = .ok (.invokestatic 98, 3) := by decide +kernel
theorem dX10_best_9 : decode cX10_best 9 = .ok (.ifCond .ne 6, 3) := by decide +kernel
theorem dX10_best_12 : decode cX10_best 12 = .ok (.bipush (-2), 2) := by decide +kernel
theorem dX10_best_14 : decode cX10_best 14 = .ok (.ireturn, 1) := by decide +kernel
theorem dX10_best_15 : decode cX10_best 15 = .ok (.aload_n 0, 1) := by decide +kernel
theorem dX10_best_16 : decode cX10_best 16 = .ok (.iload_n 1, 1) := by decide +kernel
theorem dX10_best_17 : decode cX10_best 17 = .ok (.invokevirtual 106, 3) := by decide +kernel
theorem dX10_best_20 : decode cX10_best 20 = .ok (.ifCond .ne 16, 3) := by decide +kernel
theorem dX10_best_23 : decode cX10_best 23 = .ok (.iload_n 2, 1) := by decide +kernel
theorem dX10_best_24 : decode cX10_best 24 = .ok (.ifCond .ne 9, 3) := by decide +kernel
theorem dX10_best_27 : decode cX10_best 27 = .ok (.ldc_w 388, 3) := by decide +kernel
theorem dX10_best_30 : decode cX10_best 30 = .ok (.goto 5, 3) := by decide +kernel
theorem dX10_best_33 : decode cX10_best 33 = .ok (.bipush (-2), 2) := by decide +kernel
theorem dX10_best_35 : decode cX10_best 35 = .ok (.ireturn, 1) := by decide +kernel
theorem dX10_best_36 : decode cX10_best 36 = .ok (.aload_n 0, 1) := by decide +kernel
theorem dX10_best_37 : decode cX10_best 37 = .ok (.iload_n 1, 1) := by decide +kernel
theorem dX10_best_38 : decode cX10_best 38 = .ok (.invokevirtual 389, 3) := by decide +kernel
theorem dX10_best_41 : decode cX10_best 41 = .ok (.aload_n 0, 1) := by decide +kernel
theorem dX10_best_42 : decode cX10_best 42 = .ok (.iload_n 1, 1) := by decide +kernel
theorem dX10_best_43 : decode cX10_best 43 = .ok (.iconst 1, 1) := by decide +kernel
theorem dX10_best_44 : decode cX10_best 44 = .ok (.invokevirtual 400, 3) := by decide +kernel
theorem dX10_best_47 : decode cX10_best 47 = .ok (.aload_n 0, 1) := by decide +kernel
theorem dX10_best_48 : decode cX10_best 48 = .ok (.getfield 53, 3) := by decide +kernel
theorem dX10_best_51 : decode cX10_best 51 = .ok (.iload_n 2, 1) := by decide +kernel
theorem dX10_best_52 : decode cX10_best 52 = .ok (.iaload, 1) := by decide +kernel
theorem dX10_best_53 : decode cX10_best 53 = .ok (.ireturn, 1) := by decide +kernel
theorem dX10_gift_0 : decode cX10_gift 0 = .ok (.aload_n 0, 1) := by decide +kernel
theorem dX10_gift_1 : decode cX10_gift 1 = .ok (.iload_n 1, 1) := by decide +kernel
theorem dX10_gift_2 : decode cX10_gift 2 = .ok (.iload_n 2, 1) := by decide +kernel
theorem dX10_gift_3 : decode cX10_gift 3 = .ok (.invokevirtual 289, 3) := by decide +kernel
theorem dX10_gift_6 : decode cX10_gift 6 = .ok (.ifCond .eq 12, 3) := by decide +kernel
theorem dX10_gift_9 : decode cX10_gift 9 = .ok (.aload_n 0, 1) := by decide +kernel
theorem dX10_gift_10 : decode cX10_gift 10 = .ok (.iload_n 1, 1) := by decide +kernel
theorem dX10_gift_11 : decode cX10_gift 11 = .ok (.iload_n 2, 1) := by decide +kernel
theorem dX10_gift_12 : decode cX10_gift 12 = .ok (.invokevirtual 407, 3) := by decide +kernel
theorem dX10_gift_15 : decode cX10_gift 15 = .ok (.goto 5, 3) := by decide +kernel
theorem dX10_gift_18 : decode cX10_gift 18 = .ok (.bipush (-2), 2) := by decide +kernel
theorem dX10_gift_20 : decode cX10_gift 20 = .ok (.ireturn, 1) := by decide +kernel
theorem dX10_gifts_0 : decode cX10_gifts 0 = .ok (.aload_n 0, 1) := by decide +kernel
theorem dX10_gifts_1 : decode cX10_gifts 1 = .ok (.iload_n 1, 1) := by decide +kernel
theorem dX10_gifts_2 : decode cX10_gifts 2 = .ok (.invokevirtual 106, 3) := by decide +kernel
theorem dX10_gifts_5 : decode cX10_gifts 5 = .ok (.ifCond .ne 6, 3) := by decide +kernel
theorem dX10_gifts_8 : decode cX10_gifts 8 = .ok (.bipush (-2), 2) := by decide +kernel
theorem dX10_gifts_10 : decode cX10_gifts 10 = .ok (.ireturn, 1) := by decide +kernel
theorem dX10_gifts_11 : decode cX10_gifts 11 = .ok (.iconst (-1), 1) := by decide +kernel
theorem dX10_gifts_12 : decode cX10_gifts 12 = .ok (.istore_n 2, 1) := by decide +kernel
theorem dX10_gifts_13 : decode cX10_gifts 13 = .ok (.iconst 0, 1) := by decide +kernel
theorem dX10_gifts_14 : decode cX10_gifts 14 = .ok (.istore_n 3, 1) := by decide +kernel
theorem dX10_gifts_15 : decode cX10_gifts 15 = .ok (.iconst 0, 1) := by decide +kernel
theorem dX10_gifts_16 : decode cX10_gifts 16 = .ok (.istore 4, 2) := by decide +kernel
theorem dX10_gifts_18 : decode cX10_gifts 18 = .ok (.iload 4, 2) := by decide +kernel
theorem dX10_gifts_20 : decode cX10_gifts 20 = .ok (.aload_n 0, 1) := by decide +kernel
theorem dX10_gifts_21 : decode cX10_gifts 21 = .ok (.invokevirtual 295, 3) := by decide +kernel
theorem dX10_gifts_24 : decode cX10_gifts 24 = .ok (.if_icmp .ge 54, 3) := by decide +kernel
theorem dX10_gifts_27 : decode cX10_gifts 27 = .ok (.iload 4, 2) := by decide +kernel
theorem dX10_gifts_29 : decode cX10_gifts 29 = .ok (.iload_n 1, 1) := by decide +kernel
theorem dX10_gifts_30 : decode cX10_gifts 30 = .ok (.if_icmp .ne 7, 3) := by decide +kernel
theorem dX10_gifts_33 : decode cX10_gifts 33 = .ok (.iconst (-1), 1) := by decide +kernel
theorem dX10_gifts_34 : decode cX10_gifts 34 = .ok (.goto 10, 3) := by decide +kernel
theorem dX10_gifts_37 : decode cX10_gifts 37 = .ok (.aload_n 0, 1) := by decide +kernel
theorem dX10_gifts_38 : decode cX10_gifts 38 = .ok (.iload_n 1, 1) := by decide +kernel
theorem dX10_gifts_39 : decode cX10_gifts 39 = .ok (.iload 4, 2) := by decide +kernel
theorem dX10_gifts_41 : decode cX10_gifts 41 = .ok (.invokevirtual 407, 3) := by decide +kernel
theorem dX10_gifts_44 : decode cX10_gifts 44 = .ok (.istore 5, 2) := by decide +kernel
theorem dX10_gifts_46 : decode cX10_gifts 46 = .ok (.iload 5, 2) := by decide +kernel
theorem dX10_gifts_48 : decode cX10_gifts 48 = .ok (.iconst (-1), 1) := by decide +kernel
theorem dX10_gifts_49 : decode cX10_gifts 49 = .ok (.if_icmp .eq 23, 3) := by decide +kernel
theorem dX10_gifts_52 : decode cX10_gifts 52 = .ok (.iload_n 2, 1) := by decide +kernel
theorem dX10_gifts_53 : decode cX10_gifts 53 = .ok (.iconst (-1), 1) := by decide +kernel
theorem dX10_gifts_54 : decode cX10_gifts 54 = .ok (.if_icmp .eq 12, 3) := by decide +kernel
theorem dX10_gifts_57 : decode cX10_gifts 57 = .ok (.iload 5, 2) := by decide +kernel
theorem dX10_gifts_59 : decode cX10_gifts 59 = .ok (.iload_n 3, 1) := by decide +kernel
theorem dX10_gifts_60 : decode cX10_gifts 60 = .ok (.if_icmp .lt 6, 3) := by decide +kernel
theorem dX10_gifts_63 : decode cX10_gifts 63 = .ok (.goto 9, 3) := by decide +kernel
theorem dX10_gifts_66 : decode cX10_gifts 66 = .ok (.iload 4, 2) := by decide +kernel
theorem dX10_gifts_68 : decode cX10_gifts 68 = .ok (.istore_n 2, 1) := by decide +kernel
theorem dX10_gifts_69 : decode cX10_gifts 69 = .ok (.iload 5, 2) := by decide +kernel
theorem dX10_gifts_71 : decode cX10_gifts 71 = .ok (.istore_n 3, 1) := by decide +kernel
theorem dX10_gifts_72 : decode cX10_gifts 72 = .ok (.iinc 4 1, 3) := by decide +kernel
theorem dX10_gifts_75 : decode cX10_gifts 75 = .ok (.goto (-57), 3) := by decide +kernel
theorem dX10_gifts_78 : decode cX10_gifts 78 = .ok (.iload_n 2, 1) := by decide +kernel
theorem dX10_gifts_79 : decode cX10_gifts 79 = .ok (.ireturn, 1) := by decide +kernel
theorem dX10_breaks_0 : decode cX10_breaks 0 = .ok (.aload_n 0, 1) := by decide +kernel
theorem dX10_breaks_1 : decode cX10_breaks 1 = .ok (.iload_n 1, 1) := by decide +kernel
theorem dX10_breaks_2 : decode cX10_breaks 2 = .ok (.iload_n 2, 1) := by decide +kernel
theorem dX10_breaks_3 : decode cX10_breaks 3 = .ok (.invokevirtual 289, 3) := by decide +kernel
theorem dX10_breaks_6 : decode cX10_breaks 6 = .ok (.ifCond .eq 12, 3) := by decide +kernel
theorem dX10_breaks_9 : decode cX10_breaks 9 = .ok (.aload_n 0, 1) := by decide +kernel
theorem dX10_breaks_10 : decode cX10_breaks 10 = .ok (.iload_n 1, 1) := by decide +kernel
theorem dX10_breaks_11 : decode cX10_breaks 11 = .ok (.iload_n 2, 1) := by decide +kernel
theorem dX10_breaks_12 : decode cX10_breaks 12 = .ok (.invokevirtual 410, 3) := by decide +kernel
theorem dX10_breaks_15 : decode cX10_breaks 15 = .ok (.goto 5, 3) := by decide +kernel
theorem dX10_breaks_18 : decode cX10_breaks 18 = .ok (.bipush (-2), 2) := by decide +kernel
theorem dX10_breaks_20 : decode cX10_breaks 20 = .ok (.ireturn, 1) := by decide +kernel
theorem dX10_third_0 : decode cX10_third 0 = .ok (.aload_n 0, 1) := by decide +kernel
theorem dX10_third_1 : decode cX10_third 1 = .ok (.iload_n 1, 1) := by decide +kernel
theorem dX10_third_2 : decode cX10_third 2 = .ok (.invokevirtual 106, 3) := by decide +kernel
theorem dX10_third_5 : decode cX10_third 5 = .ok (.ifCond .ne 6, 3) := by decide +kernel
theorem dX10_third_8 : decode cX10_third 8 = .ok (.bipush (-2), 2) := by decide +kernel
theorem dX10_third_10 : decode cX10_third 10 = .ok (.ireturn, 1) := by decide +kernel
theorem dX10_third_11 : decode cX10_third 11 = .ok (.iconst (-1), 1) := by decide +kernel
theorem dX10_third_12 : decode cX10_third 12 = .ok (.istore_n 2, 1) := by decide +kernel
theorem dX10_third_13 : decode cX10_third 13 = .ok (.iconst 0, 1) := by decide +kernel
theorem dX10_third_14 : decode cX10_third 14 = .ok (.istore_n 3, 1) := by decide +kernel
theorem dX10_third_15 : decode cX10_third 15 = .ok (.iload_n 3, 1) := by decide +kernel
theorem dX10_third_16 : decode cX10_third 16 = .ok (.aload_n 0, 1) := by decide +kernel
theorem dX10_third_17 : decode cX10_third 17 = .ok (.invokevirtual 295, 3) := by decide +kernel
theorem dX10_third_20 : decode cX10_third 20 = .ok (.if_icmp .ge 50, 3) := by decide +kernel
theorem dX10_third_23 : decode cX10_third 23 = .ok (.iload_n 3, 1) := by decide +kernel
theorem dX10_third_24 : decode cX10_third 24 = .ok (.iload_n 1, 1) := by decide +kernel
theorem dX10_third_25 : decode cX10_third 25 = .ok (.if_icmp .ne 7, 3) := by decide +kernel
theorem dX10_third_28 : decode cX10_third 28 = .ok (.iconst (-1), 1) := by decide +kernel
theorem dX10_third_29 : decode cX10_third 29 = .ok (.goto 9, 3) := by decide +kernel
theorem dX10_third_32 : decode cX10_third 32 = .ok (.aload_n 0, 1) := by decide +kernel
theorem dX10_third_33 : decode cX10_third 33 = .ok (.iload_n 1, 1) := by decide +kernel
theorem dX10_third_34 : decode cX10_third 34 = .ok (.iload_n 3, 1) := by decide +kernel
theorem dX10_third_35 : decode cX10_third 35 = .ok (.invokevirtual 410, 3) := by decide +kernel
theorem dX10_third_38 : decode cX10_third 38 = .ok (.istore 4, 2) := by decide +kernel
theorem dX10_third_40 : decode cX10_third 40 = .ok (.iload 4, 2) := by decide +kernel
theorem dX10_third_42 : decode cX10_third 42 = .ok (.iconst (-1), 1) := by decide +kernel
theorem dX10_third_43 : decode cX10_third 43 = .ok (.if_icmp .eq 14, 3) := by decide +kernel
theorem dX10_third_46 : decode cX10_third 46 = .ok (.iload_n 2, 1) := by decide +kernel
theorem dX10_third_47 : decode cX10_third 47 = .ok (.iconst (-1), 1) := by decide +kernel
theorem dX10_third_48 : decode cX10_third 48 = .ok (.if_icmp .eq 13, 3) := by decide +kernel
theorem dX10_third_51 : decode cX10_third 51 = .ok (.iload 4, 2) := by decide +kernel
theorem dX10_third_53 : decode cX10_third 53 = .ok (.iload_n 2, 1) := by decide +kernel
theorem dX10_third_54 : decode cX10_third 54 = .ok (.if_icmp .lt 7, 3) := by decide +kernel
theorem dX10_third_57 : decode cX10_third 57 = .ok (.iload_n 2, 1) := by decide +kernel
theorem dX10_third_58 : decode cX10_third 58 = .ok (.goto 5, 3) := by decide +kernel
theorem dX10_third_61 : decode cX10_third 61 = .ok (.iload 4, 2) := by decide +kernel
theorem dX10_third_63 : decode cX10_third 63 = .ok (.istore_n 2, 1) := by decide +kernel
theorem dX10_third_64 : decode cX10_third 64 = .ok (.iinc 3 1, 3) := by decide +kernel
theorem dX10_third_67 : decode cX10_third 67 = .ok (.goto (-52), 3) := by decide +kernel
theorem dX10_third_70 : decode cX10_third 70 = .ok (.iload_n 2, 1) := by decide +kernel
theorem dX10_third_71 : decode cX10_third 71 = .ok (.ireturn, 1) := by decide +kernel
theorem dX10_restless_0 : decode cX10_restless 0 = .ok (.aload_n 0, 1) := by decide +kernel
theorem dX10_restless_1 : decode cX10_restless 1 = .ok (.invokevirtual 295, 3) := by decide +kernel
theorem dX10_restless_4 : decode cX10_restless 4 = .ok (.ifCond .le 10, 3) := by decide +kernel
theorem dX10_restless_7 : decode cX10_restless 7 = .ok (.aload_n 0, 1) := by decide +kernel
theorem dX10_restless_8 : decode cX10_restless 8 = .ok (.invokevirtual 416, 3) := by decide +kernel
theorem dX10_restless_11 : decode cX10_restless 11 = .ok (.goto 5, 3) := by decide +kernel
theorem dX10_restless_14 : decode cX10_restless 14 = .ok (.bipush (-2), 2) := by decide +kernel
theorem dX10_restless_16 : decode cX10_restless 16 = .ok (.ireturn, 1) := by decide +kernel
theorem dX10_rests_0 : decode cX10_rests 0 = .ok (.iload_n 1, 1) := by decide +kernel
theorem dX10_rests_1 : decode cX10_rests 1 = .ok (.i2l, 1) := by decide +kernel
theorem dX10_rests_2 : decode cX10_rests 2 = .ok (.lconst 1, 1) := by decide +kernel
theorem dX10_rests_3 : decode cX10_rests 3 = .ok (.ldc2_w 419, 3) := by decide +kernel
theorem dX10_rests_6 : decode cX10_rests 6 = .ok (.invokestatic 98, 3) := by decide +kernel
theorem dX10_rests_9 : decode cX10_rests 9 = .ok (.ifCond .eq 28, 3) := by decide +kernel
theorem dX10_rests_12 : decode cX10_rests 12 = .ok (.iload_n 1, 1) := by decide +kernel
theorem dX10_rests_13 : decode cX10_rests 13 = .ok (.aload_n 0, 1) := by decide +kernel
theorem dX10_rests_14 : decode cX10_rests 14 = .ok (.getfield 13, 3) := by decide +kernel
theorem dX10_rests_17 : decode cX10_rests 17 = .ok (.iconst 1, 1) := by decide +kernel
theorem dX10_rests_18 : decode cX10_rests 18 = .ok (.iaload, 1) := by decide +kernel
theorem dX10_rests_19 : decode cX10_rests 19 = .ok (.if_icmp .gt 18, 3) := by decide +kernel
theorem dX10_rests_22 : decode cX10_rests 22 = .ok (.aload_n 0, 1) := by decide +kernel
theorem dX10_rests_23 : decode cX10_rests 23 = .ok (.invokevirtual 295, 3) := by decide +kernel
theorem dX10_rests_26 : decode cX10_rests 26 = .ok (.ifCond .eq 11, 3) := by decide +kernel
theorem dX10_rests_29 : decode cX10_rests 29 = .ok (.aload_n 0, 1) := by decide +kernel
theorem dX10_rests_30 : decode cX10_rests 30 = .ok (.invokevirtual 295, 3) := by decide +kernel
theorem dX10_rests_33 : decode cX10_rests 33 = .ok (.iconst 3, 1) := by decide +kernel
theorem dX10_rests_34 : decode cX10_rests 34 = .ok (.if_icmp .le 6, 3) := by decide +kernel
theorem dX10_rests_37 : decode cX10_rests 37 = .ok (.bipush (-2), 2) := by decide +kernel
theorem dX10_rests_39 : decode cX10_rests 39 = .ok (.ireturn, 1) := by decide +kernel
theorem dX10_rests_40 : decode cX10_rests 40 = .ok (.iconst 1, 1) := by decide +kernel
theorem dX10_rests_41 : decode cX10_rests 41 = .ok (.istore_n 2, 1) := by decide +kernel
theorem dX10_rests_42 : decode cX10_rests 42 = .ok (.iconst 0, 1) := by decide +kernel
theorem dX10_rests_43 : decode cX10_rests 43 = .ok (.istore_n 3, 1) := by decide +kernel
theorem dX10_rests_44 : decode cX10_rests 44 = .ok (.iload_n 3, 1) := by decide +kernel
