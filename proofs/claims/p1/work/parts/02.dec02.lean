theorem dX9_tops_13 : decode cX9_tops 13 = .ok (.aload_n 0, 1) := by decide +kernel
theorem dX9_tops_14 : decode cX9_tops 14 = .ok (.invokevirtual 162, 3) := by decide +kernel
theorem dX9_tops_17 : decode cX9_tops 17 = .ok (.aload_n 0, 1) := by decide +kernel
theorem dX9_tops_18 : decode cX9_tops 18 = .ok (.getfield 43, 3) := by decide +kernel
theorem dX9_tops_21 : decode cX9_tops 21 = .ok (.getfield 165, 3) := by decide +kernel
theorem dX9_tops_24 : decode cX9_tops 24 = .ok (.ireturn, 1) := by decide +kernel
theorem dX9_next_0 : decode cX9_next 0 = .ok (.aload_n 0, 1) := by decide +kernel
theorem dX9_next_1 : decode cX9_next 1 = .ok (.getfield 19, 3) := by decide +kernel
theorem dX9_next_4 : decode cX9_next 4 = .ok (.getfield 97, 3) := by decide +kernel
theorem dX9_next_7 : decode cX9_next 7 = .ok (.ifCond .ne 6, 3) := by decide +kernel
theorem dX9_next_10 : decode cX9_next 10 = .ok (.bipush (-2), 2) := by decide +kernel
theorem dX9_next_12 : decode cX9_next 12 = .ok (.ireturn, 1) := by decide +kernel
theorem dX9_next_13 : decode cX9_next 13 = .ok (.aload_n 0, 1) := by decide +kernel
theorem dX9_next_14 : decode cX9_next 14 = .ok (.invokevirtual 162, 3) := by decide +kernel
theorem dX9_next_17 : decode cX9_next 17 = .ok (.aload_n 0, 1) := by decide +kernel
theorem dX9_next_18 : decode cX9_next 18 = .ok (.getfield 43, 3) := by decide +kernel
theorem dX9_next_21 : decode cX9_next 21 = .ok (.getfield 168, 3) := by decide +kernel
theorem dX9_next_24 : decode cX9_next 24 = .ok (.ireturn, 1) := by decide +kernel
theorem dX9_loses_0 : decode cX9_loses 0 = .ok (.aload_n 0, 1) := by decide +kernel
theorem dX9_loses_1 : decode cX9_loses 1 = .ok (.iload_n 1, 1) := by decide +kernel
theorem dX9_loses_2 : decode cX9_loses 2 = .ok (.i2l, 1) := by decide +kernel
theorem dX9_loses_3 : decode cX9_loses 3 = .ok (.invokevirtual 100, 3) := by decide +kernel
theorem dX9_loses_6 : decode cX9_loses 6 = .ok (.ifCond .ne 6, 3) := by decide +kernel
theorem dX9_loses_9 : decode cX9_loses 9 = .ok (.bipush (-2), 2) := by decide +kernel
theorem dX9_loses_11 : decode cX9_loses 11 = .ok (.ireturn, 1) := by decide +kernel
theorem dX9_loses_12 : decode cX9_loses 12 = .ok (.aload_n 0, 1) := by decide +kernel
theorem dX9_loses_13 : decode cX9_loses 13 = .ok (.invokevirtual 162, 3) := by decide +kernel
theorem dX9_loses_16 : decode cX9_loses 16 = .ok (.aload_n 0, 1) := by decide +kernel
theorem dX9_loses_17 : decode cX9_loses 17 = .ok (.getfield 43, 3) := by decide +kernel
theorem dX9_loses_20 : decode cX9_loses 20 = .ok (.iload_n 1, 1) := by decide +kernel
theorem dX9_loses_21 : decode cX9_loses 21 = .ok (.invokevirtual 171, 3) := by decide +kernel
theorem dX9_loses_24 : decode cX9_loses 24 = .ok (.ireturn, 1) := by decide +kernel
theorem dX9_stroke_0 : decode cX9_stroke 0 = .ok (.aload_n 0, 1) := by decide +kernel
theorem dX9_stroke_1 : decode cX9_stroke 1 = .ok (.getfield 19, 3) := by decide +kernel
theorem dX9_stroke_4 : decode cX9_stroke 4 = .ok (.getfield 97, 3) := by decide +kernel
theorem dX9_stroke_7 : decode cX9_stroke 7 = .ok (.ifCond .ne 6, 3) := by decide +kernel
theorem dX9_stroke_10 : decode cX9_stroke 10 = .ok (.bipush (-2), 2) := by decide +kernel
theorem dX9_stroke_12 : decode cX9_stroke 12 = .ok (.ireturn, 1) := by decide +kernel
theorem dX9_stroke_13 : decode cX9_stroke 13 = .ok (.aload_n 0, 1) := by decide +kernel
theorem dX9_stroke_14 : decode cX9_stroke 14 = .ok (.getfield 19, 3) := by decide +kernel
theorem dX9_stroke_17 : decode cX9_stroke 17 = .ok (.aload_n 0, 1) := by decide +kernel
theorem dX9_stroke_18 : decode cX9_stroke 18 = .ok (.getfield 43, 3) := by decide +kernel
theorem dX9_stroke_21 : decode cX9_stroke 21 = .ok (.invokevirtual 175, 3) := by decide +kernel
theorem dX9_stroke_24 : decode cX9_stroke 24 = .ok (.aload_n 0, 1) := by decide +kernel
theorem dX9_stroke_25 : decode cX9_stroke 25 = .ok (.getfield 43, 3) := by decide +kernel
theorem dX9_stroke_28 : decode cX9_stroke 28 = .ok (.getfield 179, 3) := by decide +kernel
theorem dX9_stroke_31 : decode cX9_stroke 31 = .ok (.ireturn, 1) := by decide +kernel
theorem dX9_whyNot_0 : decode cX9_whyNot 0 = .ok (.aload_n 0, 1) := by decide +kernel
theorem dX9_whyNot_1 : decode cX9_whyNot 1 = .ok (.lload_n 2, 1) := by decide +kernel
theorem dX9_whyNot_2 : decode cX9_whyNot 2 = .ok (.invokevirtual 100, 3) := by decide +kernel
theorem dX9_whyNot_5 : decode cX9_whyNot 5 = .ok (.ifCond .eq 31, 3) := by decide +kernel
theorem dX9_whyNot_8 : decode cX9_whyNot 8 = .ok (.lload 4, 2) := by decide +kernel
theorem dX9_whyNot_10 : decode cX9_whyNot 10 = .ok (.lconst 0, 1) := by decide +kernel
theorem dX9_whyNot_11 : decode cX9_whyNot 11 = .ok (.lcmp, 1) := by decide +kernel
theorem dX9_whyNot_12 : decode cX9_whyNot 12 = .ok (.ifCond .lt 24, 3) := by decide +kernel
theorem dX9_whyNot_15 : decode cX9_whyNot 15 = .ok (.lload 4, 2) := by decide +kernel
theorem dX9_whyNot_17 : decode cX9_whyNot 17 = .ok (.lconst 1, 1) := by decide +kernel
theorem dX9_whyNot_18 : decode cX9_whyNot 18 = .ok (.lcmp, 1) := by decide +kernel
theorem dX9_whyNot_19 : decode cX9_whyNot 19 = .ok (.ifCond .gt 17, 3) := by decide +kernel
theorem dX9_whyNot_22 : decode cX9_whyNot 22 = .ok (.lload 6, 2) := by decide +kernel
theorem dX9_whyNot_24 : decode cX9_whyNot 24 = .ok (.lconst 0, 1) := by decide +kernel
theorem dX9_whyNot_25 : decode cX9_whyNot 25 = .ok (.lcmp, 1) := by decide +kernel
theorem dX9_whyNot_26 : decode cX9_whyNot 26 = .ok (.ifCond .lt 10, 3) := by decide +kernel
theorem dX9_whyNot_29 : decode cX9_whyNot 29 = .ok (.lload 8, 2) := by decide +kernel
theorem dX9_whyNot_31 : decode cX9_whyNot 31 = .ok (.lconst 0, 1) := by decide +kernel
theorem dX9_whyNot_32 : decode cX9_whyNot 32 = .ok (.lcmp, 1) := by decide +kernel
theorem dX9_whyNot_33 : decode cX9_whyNot 33 = .ok (.ifCond .ge 6, 3) := by decide +kernel
theorem dX9_whyNot_36 : decode cX9_whyNot 36 = .ok (.bipush (-2), 2) := by decide +kernel
theorem dX9_whyNot_38 : decode cX9_whyNot 38 = .ok (.ireturn, 1) := by decide +kernel
theorem dX9_whyNot_39 : decode cX9_whyNot 39 = .ok (.lload 8, 2) := by decide +kernel
theorem dX9_whyNot_41 : decode cX9_whyNot 41 = .ok (.lconst 0, 1) := by decide +kernel
theorem dX9_whyNot_42 : decode cX9_whyNot 42 = .ok (.lcmp, 1) := by decide +kernel
theorem dX9_whyNot_43 : decode cX9_whyNot 43 = .ok (.ifCond .ne 15, 3) := by decide +kernel
theorem dX9_whyNot_46 : decode cX9_whyNot 46 = .ok (.lload 10, 2) := by decide +kernel
theorem dX9_whyNot_48 : decode cX9_whyNot 48 = .ok (.ldc2_w 182, 3) := by decide +kernel
theorem dX9_whyNot_51 : decode cX9_whyNot 51 = .ok (.lcmp, 1) := by decide +kernel
theorem dX9_whyNot_52 : decode cX9_whyNot 52 = .ok (.ifCond .eq 25, 3) := by decide +kernel
theorem dX9_whyNot_55 : decode cX9_whyNot 55 = .ok (.goto 19, 3) := by decide +kernel
theorem dX9_whyNot_58 : decode cX9_whyNot 58 = .ok (.aload_n 0, 1) := by decide +kernel
theorem dX9_whyNot_59 : decode cX9_whyNot 59 = .ok (.lload 10, 2) := by decide +kernel
theorem dX9_whyNot_61 : decode cX9_whyNot 61 = .ok (.invokevirtual 100, 3) := by decide +kernel
theorem dX9_whyNot_64 : decode cX9_whyNot 64 = .ok (.ifCond .eq 10, 3) := by decide +kernel
theorem dX9_whyNot_67 : decode cX9_whyNot 67 = .ok (.lload 10, 2) := by decide +kernel
theorem dX9_whyNot_69 : decode cX9_whyNot 69 = .ok (.lload_n 2, 1) := by decide +kernel
theorem dX9_whyNot_70 : decode cX9_whyNot 70 = .ok (.lcmp, 1) := by decide +kernel
theorem dX9_whyNot_71 : decode cX9_whyNot 71 = .ok (.ifCond .ne 6, 3) := by decide +kernel
theorem dX9_whyNot_74 : decode cX9_whyNot 74 = .ok (.bipush (-2), 2) := by decide +kernel
theorem dX9_whyNot_76 : decode cX9_whyNot 76 = .ok (.ireturn, 1) := by decide +kernel
theorem dX9_whyNot_77 : decode cX9_whyNot 77 = .ok (.aload_n 1, 1) := by decide +kernel
theorem dX9_whyNot_78 : decode cX9_whyNot 78 = .ok (.lload_n 2, 1) := by decide +kernel
theorem dX9_whyNot_79 : decode cX9_whyNot 79 = .ok (.l2i, 1) := by decide +kernel
theorem dX9_whyNot_80 : decode cX9_whyNot 80 = .ok (.lload 4, 2) := by decide +kernel
theorem dX9_whyNot_82 : decode cX9_whyNot 82 = .ok (.l2i, 1) := by decide +kernel
theorem dX9_whyNot_83 : decode cX9_whyNot 83 = .ok (.invokevirtual 184, 3) := by decide +kernel
theorem dX9_whyNot_86 : decode cX9_whyNot 86 = .ok (.istore 12, 2) := by decide +kernel
theorem dX9_whyNot_88 : decode cX9_whyNot 88 = .ok (.lload 6, 2) := by decide +kernel
theorem dX9_whyNot_90 : decode cX9_whyNot 90 = .ok (.iload 12, 2) := by decide +kernel
theorem dX9_whyNot_92 : decode cX9_whyNot 92 = .ok (.i2l, 1) := by decide +kernel
theorem dX9_whyNot_93 : decode cX9_whyNot 93 = .ok (.lcmp, 1) := by decide +kernel
theorem dX9_whyNot_94 : decode cX9_whyNot 94 = .ok (.ifCond .gt 15, 3) := by decide +kernel
theorem dX9_whyNot_97 : decode cX9_whyNot 97 = .ok (.lload 8, 2) := by decide +kernel
theorem dX9_whyNot_99 : decode cX9_whyNot 99 = .ok (.iload 12, 2) := by decide +kernel
theorem dX9_whyNot_101 : decode cX9_whyNot 101 = .ok (.i2l, 1) := by decide +kernel
theorem dX9_whyNot_102 : decode cX9_whyNot 102 = .ok (.lload 6, 2) := by decide +kernel
theorem dX9_whyNot_104 : decode cX9_whyNot 104 = .ok (.lsub, 1) := by decide +kernel
theorem dX9_whyNot_105 : decode cX9_whyNot 105 = .ok (.lcmp, 1) := by decide +kernel
theorem dX9_whyNot_106 : decode cX9_whyNot 106 = .ok (.ifCond .le 8, 3) := by decide +kernel
theorem dX9_whyNot_109 : decode cX9_whyNot 109 = .ok (.bipush (-5), 2) := by decide +kernel
theorem dX9_whyNot_111 : decode cX9_whyNot 111 = .ok (.goto 4, 3) := by decide +kernel
theorem dX9_whyNot_114 : decode cX9_whyNot 114 = .ok (.iconst 0, 1) := by decide +kernel
theorem dX9_whyNot_115 : decode cX9_whyNot 115 = .ok (.ireturn, 1) := by decide +kernel
theorem dX9_act_0 : decode cX9_act 0 = .ok (.aload_n 0, 1) := by decide +kernel
theorem dX9_act_1 : decode cX9_act 1 = .ok (.aload_n 0, 1) := by decide +kernel
theorem dX9_act_2 : decode cX9_act 2 = .ok (.getfield 19, 3) := by decide +kernel
theorem dX9_act_5 : decode cX9_act 5 = .ok (.iload_n 1, 1) := by decide +kernel
theorem dX9_act_6 : decode cX9_act 6 = .ok (.i2l, 1) := by decide +kernel
theorem dX9_act_7 : decode cX9_act 7 = .ok (.iload_n 2, 1) := by decide +kernel
theorem dX9_act_8 : decode cX9_act 8 = .ok (.i2l, 1) := by decide +kernel
theorem dX9_act_9 : decode cX9_act 9 = .ok (.iload_n 3, 1) := by decide +kernel
theorem dX9_act_10 : decode cX9_act 10 = .ok (.i2l, 1) := by decide +kernel
theorem dX9_act_11 : decode cX9_act 11 = .ok (.iload 4, 2) := by decide +kernel
theorem dX9_act_13 : decode cX9_act 13 = .ok (.i2l, 1) := by decide +kernel
theorem dX9_act_14 : decode cX9_act 14 = .ok (.iload 5, 2) := by decide +kernel
theorem dX9_act_16 : decode cX9_act 16 = .ok (.i2l, 1) := by decide +kernel
theorem dX9_act_17 : decode cX9_act 17 = .ok (.invokevirtual 187, 3) := by decide +kernel
theorem dX9_act_20 : decode cX9_act 20 = .ok (.istore 6, 2) := by decide +kernel
theorem dX9_act_22 : decode cX9_act 22 = .ok (.iload 6, 2) := by decide +kernel
theorem dX9_act_24 : decode cX9_act 24 = .ok (.ifCond .eq 6, 3) := by decide +kernel
theorem dX9_act_27 : decode cX9_act 27 = .ok (.iload 6, 2) := by decide +kernel
theorem dX9_act_29 : decode cX9_act 29 = .ok (.ireturn, 1) := by decide +kernel
theorem dX9_act_30 : decode cX9_act 30 = .ok (.aload_n 0, 1) := by decide +kernel
theorem dX9_act_31 : decode cX9_act 31 = .ok (.getfield 19, 3) := by decide +kernel
theorem dX9_act_34 : decode cX9_act 34 = .ok (.iload_n 1, 1) := by decide +kernel
theorem dX9_act_35 : decode cX9_act 35 = .ok (.iload_n 2, 1) := by decide +kernel
theorem dX9_act_36 : decode cX9_act 36 = .ok (.iload_n 3, 1) := by decide +kernel
theorem dX9_act_37 : decode cX9_act 37 = .ok (.iload 4, 2) := by decide +kernel
theorem dX9_act_39 : decode cX9_act 39 = .ok (.iload 5, 2) := by decide +kernel
theorem dX9_act_41 : decode cX9_act 41 = .ok (.invokevirtual 191, 3) := by decide +kernel
theorem dX9_act_44 : decode cX9_act 44 = .ok (.aload_n 0, 1) := by decide +kernel
theorem dX9_act_45 : decode cX9_act 45 = .ok (.getfield 19, 3) := by decide +kernel
theorem dX9_act_48 : decode cX9_act 48 = .ok (.getfield 110, 3) := by decide +kernel
theorem dX9_act_51 : decode cX9_act 51 = .ok (.iload_n 1, 1) := by decide +kernel
theorem dX9_act_52 : decode cX9_act 52 = .ok (.aaload, 1) := by decide +kernel
theorem dX9_act_53 : decode cX9_act 53 = .ok (.astore 7, 2) := by decide +kernel
theorem dX9_act_55 : decode cX9_act 55 = .ok (.aload 7, 2) := by decide +kernel
theorem dX9_act_57 : decode cX9_act 57 = .ok (.dup, 1) := by decide +kernel
theorem dX9_act_58 : decode cX9_act 58 = .ok (.getfield 125, 3) := by decide +kernel
theorem dX9_act_61 : decode cX9_act 61 = .ok (.aload 7, 2) := by decide +kernel
theorem dX9_act_63 : decode cX9_act 63 = .ok (.iload_n 2, 1) := by decide +kernel
theorem dX9_act_64 : decode cX9_act 64 = .ok (.iload_n 3, 1) := by decide +kernel
theorem dX9_act_65 : decode cX9_act 65 = .ok (.invokevirtual 195, 3) := by decide +kernel
theorem dX9_act_68 : decode cX9_act 68 = .ok (.iadd, 1) := by decide +kernel
theorem dX9_act_69 : decode cX9_act 69 = .ok (.putfield 125, 3) := by decide +kernel
theorem dX9_act_72 : decode cX9_act 72 = .ok (.aload 7, 2) := by decide +kernel
theorem dX9_act_74 : decode cX9_act 74 = .ok (.getfield 114, 3) := by decide +kernel
theorem dX9_act_77 : decode cX9_act 77 = .ok (.ireturn, 1) := by decide +kernel
theorem dX9_judge_0 : decode cX9_judge 0 = .ok (.iload_n 1, 1) := by decide +kernel
theorem dX9_judge_1 : decode cX9_judge 1 = .ok (.ifCond .lt 8, 3) := by decide +kernel
theorem dX9_judge_4 : decode cX9_judge 4 = .ok (.iload_n 1, 1) := by decide +kernel
theorem dX9_judge_5 : decode cX9_judge 5 = .ok (.iconst 4, 1) := by decide +kernel
theorem dX9_judge_6 : decode cX9_judge 6 = .ok (.if_icmp .lt 6, 3) := by decide +kernel
theorem dX9_judge_9 : decode cX9_judge 9 = .ok (.bipush (-2), 2) := by decide +kernel
theorem dX9_judge_11 : decode cX9_judge 11 = .ok (.ireturn, 1) := by decide +kernel
theorem dX9_judge_12 : decode cX9_judge 12 = .ok (.aload_n 0, 1) := by decide +kernel
theorem dX9_judge_13 : decode cX9_judge 13 = .ok (.getfield 36, 3) := by decide +kernel
theorem dX9_judge_16 : decode cX9_judge 16 = .ok (.iload_n 1, 1) := by decide +kernel
theorem dX9_judge_17 : decode cX9_judge 17 = .ok (.aaload, 1) := by decide +kernel
theorem dX9_judge_18 : decode cX9_judge 18 = .ok (.astore_n 2, 1) := by decide +kernel
theorem dX9_judge_19 : decode cX9_judge 19 = .ok (.aload_n 2, 1) := by decide +kernel
theorem dX9_judge_20 : decode cX9_judge 20 = .ok (.getfield 198, 3) := by decide +kernel
theorem dX9_judge_23 : decode cX9_judge 23 = .ok (.ifCond .ne 6, 3) := by decide +kernel
theorem dX9_judge_26 : decode cX9_judge 26 = .ok (.bipush (-6), 2) := by decide +kernel
theorem dX9_judge_28 : decode cX9_judge 28 = .ok (.ireturn, 1) := by decide +kernel
theorem dX9_judge_29 : decode cX9_judge 29 = .ok (.aload_n 0, 1) := by decide +kernel
theorem dX9_judge_30 : decode cX9_judge 30 = .ok (.invokevirtual 202, 3) := by decide +kernel
theorem dX9_judge_33 : decode cX9_judge 33 = .ok (.astore_n 3, 1) := by decide +kernel
theorem dX9_judge_34 : decode cX9_judge 34 = .ok (.aload_n 2, 1) := by decide +kernel
theorem dX9_judge_35 : decode cX9_judge 35 = .ok (.getfield 206, 3) := by decide +kernel
theorem dX9_judge_38 : decode cX9_judge 38 = .ok (.iconst 5, 1) := by decide +kernel
theorem dX9_judge_39 : decode cX9_judge 39 = .ok (.idiv, 1) := by decide +kernel
theorem dX9_judge_40 : decode cX9_judge 40 = .ok (.istore 4, 2) := by decide +kernel
theorem dX9_judge_42 : decode cX9_judge 42 = .ok (.iconst 0, 1) := by decide +kernel
theorem dX9_judge_43 : decode cX9_judge 43 = .ok (.istore 5, 2) := by decide +kernel
theorem dX9_judge_45 : decode cX9_judge 45 = .ok (.iload 5, 2) := by decide +kernel
theorem dX9_judge_47 : decode cX9_judge 47 = .ok (.iload 4, 2) := by decide +kernel
theorem dX9_judge_49 : decode cX9_judge 49 = .ok (.if_icmp .ge 28, 3) := by decide +kernel
theorem dX9_judge_52 : decode cX9_judge 52 = .ok (.aload_n 0, 1) := by decide +kernel
theorem dX9_judge_53 : decode cX9_judge 53 = .ok (.aload_n 3, 1) := by decide +kernel
theorem dX9_judge_54 : decode cX9_judge 54 = .ok (.aload_n 2, 1) := by decide +kernel
theorem dX9_judge_55 : decode cX9_judge 55 = .ok (.getfield 207, 3) := by decide +kernel
theorem dX9_judge_58 : decode cX9_judge 58 = .ok (.iload 5, 2) := by decide +kernel
theorem dX9_judge_60 : decode cX9_judge 60 = .ok (.iconst 5, 1) := by decide +kernel
theorem dX9_judge_61 : decode cX9_judge 61 = .ok (.imul, 1) := by decide +kernel
theorem dX9_judge_62 : decode cX9_judge 62 = .ok (.invokevirtual 211, 3) := by decide +kernel
theorem dX9_judge_65 : decode cX9_judge 65 = .ok (.ifCond .ne 6, 3) := by decide +kernel
theorem dX9_judge_68 : decode cX9_judge 68 = .ok (.iload 5, 2) := by decide +kernel
theorem dX9_judge_70 : decode cX9_judge 70 = .ok (.ireturn, 1) := by decide +kernel
theorem dX9_judge_71 : decode cX9_judge 71 = .ok (.iinc 5 1, 3) := by decide +kernel
theorem dX9_judge_74 : decode cX9_judge 74 = .ok (.goto (-29), 3) := by decide +kernel
theorem dX9_judge_77 : decode cX9_judge 77 = .ok (.iload 4, 2) := by decide +kernel
theorem dX9_judge_79 : decode cX9_judge 79 = .ok (.ireturn, 1) := by decide +kernel
theorem dX9_run_0 : decode cX9_run 0 = .ok (.aload_n 0, 1) := by decide +kernel
theorem dX9_run_1 : decode cX9_run 1 = .ok (.iload_n 1, 1) := by decide +kernel
theorem dX9_run_2 : decode cX9_run 2 = .ok (.invokevirtual 215, 3) := by decide +kernel
theorem dX9_run_5 : decode cX9_run 5 = .ok (.ifCond .ne 6, 3) := by decide +kernel
theorem dX9_run_8 : decode cX9_run 8 = .ok (.bipush (-2), 2) := by decide +kernel
theorem dX9_run_10 : decode cX9_run 10 = .ok (.ireturn, 1) := by decide +kernel
theorem dX9_run_11 : decode cX9_run 11 = .ok (.iconst 0, 1) := by decide +kernel
theorem dX9_run_12 : decode cX9_run 12 = .ok (.istore_n 2, 1) := by decide +kernel
theorem dX9_run_13 : decode cX9_run 13 = .ok (.iconst 0, 1) := by decide +kernel
theorem dX9_run_14 : decode cX9_run 14 = .ok (.istore_n 3, 1) := by decide +kernel
theorem dX9_run_15 : decode cX9_run 15 = .ok (.iload_n 3, 1) := by decide +kernel
theorem dX9_run_16 : decode cX9_run 16 = .ok (.iload_n 1, 1) := by decide +kernel
theorem dX9_run_17 : decode cX9_run 17 = .ok (.if_icmp .ge 31, 3) := by decide +kernel
theorem dX9_run_20 : decode cX9_run 20 = .ok (.aload_n 0, 1) := by decide +kernel
theorem dX9_run_21 : decode cX9_run 21 = .ok (.getfield 57, 3) := by decide +kernel
theorem dX9_run_24 : decode cX9_run 24 = .ok (.aload_n 0, 1) := by decide +kernel
theorem dX9_run_25 : decode cX9_run 25 = .ok (.getfield 19, 3) := by decide +kernel
theorem dX9_run_28 : decode cX9_run 28 = .ok (.iconst 1, 1) := by decide +kernel
theorem dX9_run_29 : decode cX9_run 29 = .ok (.invokevirtual 218, 3) := by decide +kernel
theorem dX9_run_32 : decode cX9_run 32 = .ok (.iload_n 2, 1) := by decide +kernel
theorem dX9_run_33 : decode cX9_run 33 = .ok (.aload_n 0, 1) := by decide +kernel
theorem dX9_run_34 : decode cX9_run 34 = .ok (.getfield 57, 3) := by decide +kernel
theorem dX9_run_37 : decode cX9_run 37 = .ok (.getfield 222, 3) := by decide +kernel
theorem dX9_run_40 : decode cX9_run 40 = .ok (.iadd, 1) := by decide +kernel
theorem dX9_run_41 : decode cX9_run 41 = .ok (.istore_n 2, 1) := by decide +kernel
theorem dX9_run_42 : decode cX9_run 42 = .ok (.iinc 3 1, 3) := by decide +kernel
theorem dX9_run_45 : decode cX9_run 45 = .ok (.goto (-30), 3) := by decide +kernel
theorem dX9_run_48 : decode cX9_run 48 = .ok (.iload_n 2, 1) := by decide +kernel
theorem dX9_run_49 : decode cX9_run 49 = .ok (.ireturn, 1) := by decide +kernel
theorem dX9_value_0 : decode cX9_value 0 = .ok (.aload_n 0, 1) := by decide +kernel
theorem dX9_value_1 : decode cX9_value 1 = .ok (.aload_n 0, 1) := by decide +kernel
theorem dX9_value_2 : decode cX9_value 2 = .ok (.getfield 19, 3) := by decide +kernel
theorem dX9_value_5 : decode cX9_value 5 = .ok (.iload_n 1, 1) := by decide +kernel
theorem dX9_value_6 : decode cX9_value 6 = .ok (.i2l, 1) := by decide +kernel
theorem dX9_value_7 : decode cX9_value 7 = .ok (.iload_n 2, 1) := by decide +kernel
theorem dX9_value_8 : decode cX9_value 8 = .ok (.i2l, 1) := by decide +kernel
theorem dX9_value_9 : decode cX9_value 9 = .ok (.iload_n 3, 1) := by decide +kernel
theorem dX9_value_10 : decode cX9_value 10 = .ok (.i2l, 1) := by decide +kernel
theorem dX9_value_11 : decode cX9_value 11 = .ok (.iload 4, 2) := by decide +kernel
theorem dX9_value_13 : decode cX9_value 13 = .ok (.i2l, 1) := by decide +kernel
theorem dX9_value_14 : decode cX9_value 14 = .ok (.iload 5, 2) := by decide +kernel
theorem dX9_value_16 : decode cX9_value 16 = .ok (.i2l, 1) := by decide +kernel
theorem dX9_value_17 : decode cX9_value 17 = .ok (.invokevirtual 187, 3) := by decide +kernel
theorem dX9_value_20 : decode cX9_value 20 = .ok (.ifCond .eq 6, 3) := by decide +kernel
theorem dX9_value_23 : decode cX9_value 23 = .ok (.ldc 223, 2) := by decide +kernel
theorem dX9_value_25 : decode cX9_value 25 = .ok (.ireturn, 1) := by decide +kernel
theorem dX9_value_26 : decode cX9_value 26 = .ok (.aload_n 0, 1) := by decide +kernel
theorem dX9_value_27 : decode cX9_value 27 = .ok (.getfield 50, 3) := by decide +kernel
theorem dX9_value_30 : decode cX9_value 30 = .ok (.aload_n 0, 1) := by decide +kernel
theorem dX9_value_31 : decode cX9_value 31 = .ok (.getfield 19, 3) := by decide +kernel
theorem dX9_value_34 : decode cX9_value 34 = .ok (.iload_n 1, 1) := by decide +kernel
theorem dX9_value_35 : decode cX9_value 35 = .ok (.iconst 0, 1) := by decide +kernel
theorem dX9_value_36 : decode cX9_value 36 = .ok (.iconst 1, 1) := by decide +kernel
theorem dX9_value_37 : decode cX9_value 37 = .ok (.invokevirtual 224, 3) := by decide +kernel
theorem dX9_value_40 : decode cX9_value 40 = .ok (.aload_n 0, 1) := by decide +kernel
theorem dX9_value_41 : decode cX9_value 41 = .ok (.getfield 50, 3) := by decide +kernel
theorem dX9_value_44 : decode cX9_value 44 = .ok (.aload_n 0, 1) := by decide +kernel
theorem dX9_value_45 : decode cX9_value 45 = .ok (.getfield 19, 3) := by decide +kernel
theorem dX9_value_48 : decode cX9_value 48 = .ok (.iload_n 2, 1) := by decide +kernel
theorem dX9_value_49 : decode cX9_value 49 = .ok (.iload_n 3, 1) := by decide +kernel
theorem dX9_value_50 : decode cX9_value 50 = .ok (.iload 4, 2) := by decide +kernel
theorem dX9_value_52 : decode cX9_value 52 = .ok (.iload 5, 2) := by decide +kernel
theorem dX9_value_54 : decode cX9_value 54 = .ok (.invokevirtual 228, 3) := by decide +kernel
theorem dX9_value_57 : decode cX9_value 57 = .ok (.ireturn, 1) := by decide +kernel
theorem dX9_best_0 : decode cX9_best 0 = .ok (.aload_n 0, 1) := by decide +kernel
theorem dX9_best_1 : decode cX9_best 1 = .ok (.iload_n 1, 1) := by decide +kernel
theorem dX9_best_2 : decode cX9_best 2 = .ok (.i2l, 1) := by decide +kernel
theorem dX9_best_3 : decode cX9_best 3 = .ok (.invokevirtual 100, 3) := by decide +kernel
theorem dX9_best_6 : decode cX9_best 6 = .ok (.ifCond .eq 12, 3) := by decide +kernel
theorem dX9_best_9 : decode cX9_best 9 = .ok (.iload_n 2, 1) := by decide +kernel
theorem dX9_best_10 : decode cX9_best 10 = .ok (.ifCond .lt 8, 3) := by decide +kernel
theorem dX9_best_13 : decode cX9_best 13 = .ok (.iload_n 2, 1) := by decide +kernel
theorem dX9_best_14 : decode cX9_best 14 = .ok (.iconst 4, 1) := by decide +kernel
theorem dX9_best_15 : decode cX9_best 15 = .ok (.if_icmp .le 15, 3) := by decide +kernel
theorem dX9_best_18 : decode cX9_best 18 = .ok (.iload_n 2, 1) := by decide +kernel
theorem dX9_best_19 : decode cX9_best 19 = .ok (.ifCond .ne 8, 3) := by decide +kernel
theorem dX9_best_22 : decode cX9_best 22 = .ok (.ldc 223, 2) := by decide +kernel
theorem dX9_best_24 : decode cX9_best 24 = .ok (.goto 5, 3) := by decide +kernel
theorem dX9_best_27 : decode cX9_best 27 = .ok (.bipush (-2), 2) := by decide +kernel
theorem dX9_best_29 : decode cX9_best 29 = .ok (.ireturn, 1) := by decide +kernel
theorem dX9_best_30 : decode cX9_best 30 = .ok (.aload_n 0, 1) := by decide +kernel
theorem dX9_best_31 : decode cX9_best 31 = .ok (.getfield 50, 3) := by decide +kernel
theorem dX9_best_34 : decode cX9_best 34 = .ok (.aload_n 0, 1) := by decide +kernel
theorem dX9_best_35 : decode cX9_best 35 = .ok (.getfield 19, 3) := by decide +kernel
theorem dX9_best_38 : decode cX9_best 38 = .ok (.iload_n 1, 1) := by decide +kernel
theorem dX9_best_39 : decode cX9_best 39 = .ok (.iconst 0, 1) := by decide +kernel
theorem dX9_best_40 : decode cX9_best 40 = .ok (.iconst 1, 1) := by decide +kernel
theorem dX9_best_41 : decode cX9_best 41 = .ok (.invokevirtual 224, 3) := by decide +kernel
theorem dX9_best_44 : decode cX9_best 44 = .ok (.aload_n 0, 1) := by decide +kernel
theorem dX9_best_45 : decode cX9_best 45 = .ok (.getfield 50, 3) := by decide +kernel
theorem dX9_best_48 : decode cX9_best 48 = .ok (.aload_n 0, 1) := by decide +kernel
theorem dX9_best_49 : decode cX9_best 49 = .ok (.getfield 19, 3) := by decide +kernel
theorem dX9_best_52 : decode cX9_best 52 = .ok (.iconst 1, 1) := by decide +kernel
theorem dX9_best_53 : decode cX9_best 53 = .ok (.invokevirtual 232, 3) := by decide +kernel
theorem dX9_best_56 : decode cX9_best 56 = .ok (.aload_n 0, 1) := by decide +kernel
theorem dX9_best_57 : decode cX9_best 57 = .ok (.getfield 50, 3) := by decide +kernel
theorem dX9_best_60 : decode cX9_best 60 = .ok (.aload_n 0, 1) := by decide +kernel
theorem dX9_best_61 : decode cX9_best 61 = .ok (.getfield 19, 3) := by decide +kernel
theorem dX9_best_64 : decode cX9_best 64 = .ok (.iconst 0, 1) := by decide +kernel
theorem dX9_best_65 : decode cX9_best 65 = .ok (.invokevirtual 232, 3) := by decide +kernel
theorem dX9_best_68 : decode cX9_best 68 = .ok (.iload_n 2, 1) := by decide +kernel
theorem dX9_best_69 : decode cX9_best 69 = .ok (.tableswitch 63 0 3 #[31, 39, 47, 55], 31) := by decide +kernel
theorem dX9_best_100 : decode cX9_best 100 = .ok (.aload_n 0, 1) := by decide +kernel
theorem dX9_best_101 : decode cX9_best 101 = .ok (.getfield 50, 3) := by decide +kernel
theorem dX9_best_104 : decode cX9_best 104 = .ok (.getfield 236, 3) := by decide +kernel
theorem dX9_best_107 : decode cX9_best 107 = .ok (.ireturn, 1) := by decide +kernel
theorem dX9_best_108 : decode cX9_best 108 = .ok (.aload_n 0, 1) := by decide +kernel
theorem dX9_best_109 : decode cX9_best 109 = .ok (.getfield 50, 3) := by decide +kernel
theorem dX9_best_112 : decode cX9_best 112 = .ok (.getfield 239, 3) := by decide +kernel
theorem dX9_best_115 : decode cX9_best 115 = .ok (.ireturn, 1) := by decide +kernel
theorem dX9_best_116 : decode cX9_best 116 = .ok (.aload_n 0, 1) := by decide +kernel
theorem dX9_best_117 : decode cX9_best 117 = .ok (.getfield 50, 3) := by decide +kernel
theorem dX9_best_120 : decode cX9_best 120 = .ok (.getfield 242, 3) := by decide +kernel
theorem dX9_best_123 : decode cX9_best 123 = .ok (.ireturn, 1) := by decide +kernel
theorem dX9_best_124 : decode cX9_best 124 = .ok (.aload_n 0, 1) := by decide +kernel
theorem dX9_best_125 : decode cX9_best 125 = .ok (.getfield 50, 3) := by decide +kernel
theorem dX9_best_128 : decode cX9_best 128 = .ok (.getfield 245, 3) := by decide +kernel
theorem dX9_best_131 : decode cX9_best 131 = .ok (.ireturn, 1) := by decide +kernel
theorem dX9_best_132 : decode cX9_best 132 = .ok (.aload_n 0, 1) := by decide +kernel
theorem dX9_best_133 : decode cX9_best 133 = .ok (.getfield 50, 3) := by decide +kernel
theorem dX9_best_136 : decode cX9_best 136 = .ok (.getfield 248, 3) := by decide +kernel
theorem dX9_best_139 : decode cX9_best 139 = .ok (.ireturn, 1) := by decide +kernel
theorem dX9_gift_0 : decode cX9_gift 0 = .ok (.aload_n 0, 1) := by decide +kernel
theorem dX9_gift_1 : decode cX9_gift 1 = .ok (.iload_n 1, 1) := by decide +kernel
theorem dX9_gift_2 : decode cX9_gift 2 = .ok (.iload_n 2, 1) := by decide +kernel
theorem dX9_gift_3 : decode cX9_gift 3 = .ok (.invokevirtual 141, 3) := by decide +kernel
theorem dX9_gift_6 : decode cX9_gift 6 = .ok (.ifCond .eq 12, 3) := by decide +kernel
theorem dX9_gift_9 : decode cX9_gift 9 = .ok (.aload_n 0, 1) := by decide +kernel
theorem dX9_gift_10 : decode cX9_gift 10 = .ok (.iload_n 1, 1) := by decide +kernel
theorem dX9_gift_11 : decode cX9_gift 11 = .ok (.iload_n 2, 1) := by decide +kernel
theorem dX9_gift_12 : decode cX9_gift 12 = .ok (.invokevirtual 251, 3) := by decide +kernel
theorem dX9_gift_15 : decode cX9_gift 15 = .ok (.goto 5, 3) := by decide +kernel
theorem dX9_gift_18 : decode cX9_gift 18 = .ok (.bipush (-2), 2) := by decide +kernel
theorem dX9_gift_20 : decode cX9_gift 20 = .ok (.ireturn, 1) := by decide +kernel
theorem dX9_gifts_0 : decode cX9_gifts 0 = .ok (.aload_n 0, 1) := by decide +kernel
theorem dX9_gifts_1 : decode cX9_gifts 1 = .ok (.iload_n 1, 1) := by decide +kernel
theorem dX9_gifts_2 : decode cX9_gifts 2 = .ok (.i2l, 1) := by decide +kernel
theorem dX9_gifts_3 : decode cX9_gifts 3 = .ok (.invokevirtual 100, 3) := by decide +kernel
theorem dX9_gifts_6 : decode cX9_gifts 6 = .ok (.ifCond .ne 6, 3) := by decide +kernel
theorem dX9_gifts_9 : decode cX9_gifts 9 = .ok (.bipush (-2), 2) := by decide +kernel
theorem dX9_gifts_11 : decode cX9_gifts 11 = .ok (.ireturn, 1) := by decide +kernel
theorem dX9_gifts_12 : decode cX9_gifts 12 = .ok (.iconst (-1), 1) := by decide +kernel
theorem dX9_gifts_13 : decode cX9_gifts 13 = .ok (.istore_n 2, 1) := by decide +kernel
theorem dX9_gifts_14 : decode cX9_gifts 14 = .ok (.iconst (-1), 1) := by decide +kernel
theorem dX9_gifts_15 : decode cX9_gifts 15 = .ok (.istore_n 3, 1) := by decide +kernel
theorem dX9_gifts_16 : decode cX9_gifts 16 = .ok (.iconst 0, 1) := by decide +kernel
theorem dX9_gifts_17 : decode cX9_gifts 17 = .ok (.istore 4, 2) := by decide +kernel
theorem dX9_gifts_19 : decode cX9_gifts 19 = .ok (.iload 4, 2) := by decide +kernel
theorem dX9_gifts_21 : decode cX9_gifts 21 = .ok (.aload_n 0, 1) := by decide +kernel
theorem dX9_gifts_22 : decode cX9_gifts 22 = .ok (.getfield 19, 3) := by decide +kernel
theorem dX9_gifts_25 : decode cX9_gifts 25 = .ok (.getfield 97, 3) := by decide +kernel
theorem dX9_gifts_28 : decode cX9_gifts 28 = .ok (.if_icmp .ge 51, 3) := by decide +kernel
theorem dX9_gifts_31 : decode cX9_gifts 31 = .ok (.iload 4, 2) := by decide +kernel
theorem dX9_gifts_33 : decode cX9_gifts 33 = .ok (.iload_n 1, 1) := by decide +kernel
theorem dX9_gifts_34 : decode cX9_gifts 34 = .ok (.if_icmp .ne 7, 3) := by decide +kernel
theorem dX9_gifts_37 : decode cX9_gifts 37 = .ok (.iconst (-1), 1) := by decide +kernel
theorem dX9_gifts_38 : decode cX9_gifts 38 = .ok (.goto 10, 3) := by decide +kernel
theorem dX9_gifts_41 : decode cX9_gifts 41 = .ok (.aload_n 0, 1) := by decide +kernel
theorem dX9_gifts_42 : decode cX9_gifts 42 = .ok (.iload_n 1, 1) := by decide +kernel
theorem dX9_gifts_43 : decode cX9_gifts 43 = .ok (.iload 4, 2) := by decide +kernel
theorem dX9_gifts_45 : decode cX9_gifts 45 = .ok (.invokevirtual 251, 3) := by decide +kernel
theorem dX9_gifts_48 : decode cX9_gifts 48 = .ok (.istore 5, 2) := by decide +kernel
theorem dX9_gifts_50 : decode cX9_gifts 50 = .ok (.iload 5, 2) := by decide +kernel
theorem dX9_gifts_52 : decode cX9_gifts 52 = .ok (.iconst (-1), 1) := by decide +kernel
theorem dX9_gifts_53 : decode cX9_gifts 53 = .ok (.if_icmp .eq 20, 3) := by decide +kernel
theorem dX9_gifts_56 : decode cX9_gifts 56 = .ok (.iload_n 3, 1) := by decide +kernel
theorem dX9_gifts_57 : decode cX9_gifts 57 = .ok (.iconst (-1), 1) := by decide +kernel
theorem dX9_gifts_58 : decode cX9_gifts 58 = .ok (.if_icmp .eq 9, 3) := by decide +kernel
theorem dX9_gifts_61 : decode cX9_gifts 61 = .ok (.iload 5, 2) := by decide +kernel
theorem dX9_gifts_63 : decode cX9_gifts 63 = .ok (.iload_n 3, 1) := by decide +kernel
theorem dX9_gifts_64 : decode cX9_gifts 64 = .ok (.if_icmp .ge 9, 3) := by decide +kernel
theorem dX9_gifts_67 : decode cX9_gifts 67 = .ok (.iload 5, 2) := by decide +kernel
theorem dX9_gifts_69 : decode cX9_gifts 69 = .ok (.istore_n 3, 1) := by decide +kernel
theorem dX9_gifts_70 : decode cX9_gifts 70 = .ok (.iload 4, 2) := by decide +kernel
theorem dX9_gifts_72 : decode cX9_gifts 72 = .ok (.istore_n 2, 1) := by decide +kernel
theorem dX9_gifts_73 : decode cX9_gifts 73 = .ok (.iinc 4 1, 3) := by decide +kernel
theorem dX9_gifts_76 : decode cX9_gifts 76 = .ok (.goto (-57), 3) := by decide +kernel
theorem dX9_gifts_79 : decode cX9_gifts 79 = .ok (.iload_n 2, 1) := by decide +kernel
theorem dX9_gifts_80 : decode cX9_gifts 80 = .ok (.ireturn, 1) := by decide +kernel
theorem dX9_restless_0 : decode cX9_restless 0 = .ok (.aload_n 0, 1) := by decide +kernel
theorem dX9_restless_1 : decode cX9_restless 1 = .ok (.getfield 19, 3) := by decide +kernel
theorem dX9_restless_4 : decode cX9_restless 4 = .ok (.getfield 97, 3) := by decide +kernel
theorem dX9_restless_7 : decode cX9_restless 7 = .ok (.ifCond .ne 8, 3) := by decide +kernel
theorem dX9_restless_10 : decode cX9_restless 10 = .ok (.bipush (-2), 2) := by decide +kernel
theorem dX9_restless_12 : decode cX9_restless 12 = .ok (.goto 11, 3) := by decide +kernel
theorem dX9_restless_15 : decode cX9_restless 15 = .ok (.aload_n 0, 1) := by decide +kernel
theorem dX9_restless_16 : decode cX9_restless 16 = .ok (.aload_n 0, 1) := by decide +kernel
theorem dX9_restless_17 : decode cX9_restless 17 = .ok (.getfield 19, 3) := by decide +kernel
theorem dX9_restless_20 : decode cX9_restless 20 = .ok (.invokevirtual 265, 3) := by decide +kernel
theorem dX9_restless_23 : decode cX9_restless 23 = .ok (.ireturn, 1) := by decide +kernel
theorem dX9_rests_0 : decode cX9_rests 0 = .ok (.iload_n 1, 1) := by decide +kernel
theorem dX9_rests_1 : decode cX9_rests 1 = .ok (.iconst 1, 1) := by decide +kernel
theorem dX9_rests_2 : decode cX9_rests 2 = .ok (.if_icmp .lt 31, 3) := by decide +kernel
theorem dX9_rests_5 : decode cX9_rests 5 = .ok (.iload_n 1, 1) := by decide +kernel
theorem dX9_rests_6 : decode cX9_rests 6 = .ok (.bipush 6, 2) := by decide +kernel
theorem dX9_rests_8 : decode cX9_rests 8 = .ok (.if_icmp .gt 25, 3) := by decide +kernel
theorem dX9_rests_11 : decode cX9_rests 11 = .ok (.aload_n 0, 1) := by decide +kernel
theorem dX9_rests_12 : decode cX9_rests 12 = .ok (.getfield 19, 3) := by decide +kernel
theorem dX9_rests_15 : decode cX9_rests 15 = .ok (.getfield 97, 3) := by decide +kernel
theorem dX9_rests_18 : decode cX9_rests 18 = .ok (.iconst 1, 1) := by decide +kernel
theorem dX9_rests_19 : decode cX9_rests 19 = .ok (.if_icmp .lt 14, 3) := by decide +kernel
theorem dX9_rests_22 : decode cX9_rests 22 = .ok (.aload_n 0, 1) := by decide +kernel
theorem dX9_rests_23 : decode cX9_rests 23 = .ok (.getfield 19, 3) := by decide +kernel
theorem dX9_rests_26 : decode cX9_rests 26 = .ok (.getfield 97, 3) := by decide +kernel
theorem dX9_rests_29 : decode cX9_rests 29 = .ok (.iconst 3, 1) := by decide +kernel
theorem dX9_rests_30 : decode cX9_rests 30 = .ok (.if_icmp .le 6, 3) := by decide +kernel
theorem dX9_rests_33 : decode cX9_rests 33 = .ok (.bipush (-2), 2) := by decide +kernel
theorem dX9_rests_35 : decode cX9_rests 35 = .ok (.ireturn, 1) := by decide +kernel
theorem dX9_rests_36 : decode cX9_rests 36 = .ok (.aload_n 0, 1) := by decide +kernel
theorem dX9_rests_37 : decode cX9_rests 37 = .ok (.invokevirtual 202, 3) := by decide +kernel
theorem dX9_rests_40 : decode cX9_rests 40 = .ok (.astore_n 2, 1) := by decide +kernel
theorem dX9_rests_41 : decode cX9_rests 41 = .ok (.iconst 1, 1) := by decide +kernel
theorem dX9_rests_42 : decode cX9_rests 42 = .ok (.iload_n 1, 1) := by decide +kernel
theorem dX9_rests_43 : decode cX9_rests 43 = .ok (.aload_n 0, 1) := by decide +kernel
theorem dX9_rests_44 : decode cX9_rests 44 = .ok (.getfield 19, 3) := by decide +kernel
theorem dX9_rests_47 : decode cX9_rests 47 = .ok (.getfield 128, 3) := by decide +kernel
theorem dX9_rests_50 : decode cX9_rests 50 = .ok (.invokestatic 135, 3) := by decide +kernel
theorem dX9_rests_53 : decode cX9_rests 53 = .ok (.iconst 1, 1) := by decide +kernel
theorem dX9_rests_54 : decode cX9_rests 54 = .ok (.iadd, 1) := by decide +kernel
theorem dX9_rests_55 : decode cX9_rests 55 = .ok (.invokestatic 269, 3) := by decide +kernel
theorem dX9_rests_58 : decode cX9_rests 58 = .ok (.istore_n 3, 1) := by decide +kernel
theorem dX9_rests_59 : decode cX9_rests 59 = .ok (.iconst 1, 1) := by decide +kernel
theorem dX9_rests_60 : decode cX9_rests 60 = .ok (.istore 4, 2) := by decide +kernel
theorem dX9_rests_62 : decode cX9_rests 62 = .ok (.iconst 0, 1) := by decide +kernel
theorem dX9_rests_63 : decode cX9_rests 63 = .ok (.istore 5, 2) := by decide +kernel
theorem dX9_rests_65 : decode cX9_rests 65 = .ok (.iload 5, 2) := by decide +kernel
theorem dX9_rests_67 : decode cX9_rests 67 = .ok (.aload_n 0, 1) := by decide +kernel
theorem dX9_rests_68 : decode cX9_rests 68 = .ok (.getfield 19, 3) := by decide +kernel
theorem dX9_rests_71 : decode cX9_rests 71 = .ok (.getfield 97, 3) := by decide +kernel
theorem dX9_rests_74 : decode cX9_rests 74 = .ok (.if_icmp .ge 26, 3) := by decide +kernel
theorem dX9_rests_77 : decode cX9_rests 77 = .ok (.aload_n 2, 1) := by decide +kernel
theorem dX9_rests_78 : decode cX9_rests 78 = .ok (.getfield 110, 3) := by decide +kernel
theorem dX9_rests_81 : decode cX9_rests 81 = .ok (.iload 5, 2) := by decide +kernel
theorem dX9_rests_83 : decode cX9_rests 83 = .ok (.aaload, 1) := by decide +kernel
theorem dX9_rests_84 : decode cX9_rests 84 = .ok (.iconst 0, 1) := by decide +kernel
theorem dX9_rests_85 : decode cX9_rests 85 = .ok (.putfield 119, 3) := by decide +kernel
theorem dX9_rests_88 : decode cX9_rests 88 = .ok (.iload 4, 2) := by decide +kernel
theorem dX9_rests_90 : decode cX9_rests 90 = .ok (.iload_n 3, 1) := by decide +kernel
theorem dX9_rests_91 : decode cX9_rests 91 = .ok (.imul, 1) := by decide +kernel
theorem dX9_rests_92 : decode cX9_rests 92 = .ok (.istore 4, 2) := by decide +kernel
theorem dX9_rests_94 : decode cX9_rests 94 = .ok (.iinc 5 1, 3) := by decide +kernel
theorem dX9_rests_97 : decode cX9_rests 97 = .ok (.goto (-32), 3) := by decide +kernel
theorem dX9_rests_100 : decode cX9_rests 100 = .ok (.iconst 0, 1) := by decide +kernel
theorem dX9_rests_101 : decode cX9_rests 101 = .ok (.istore 5, 2) := by decide +kernel
theorem dX9_rests_103 : decode cX9_rests 103 = .ok (.iconst 0, 1) := by decide +kernel
theorem dX9_rests_104 : decode cX9_rests 104 = .ok (.istore 6, 2) := by decide +kernel
theorem dX9_rests_106 : decode cX9_rests 106 = .ok (.iload 6, 2) := by decide +kernel
theorem dX9_rests_108 : decode cX9_rests 108 = .ok (.iload 4, 2) := by decide +kernel
theorem dX9_rests_110 : decode cX9_rests 110 = .ok (.if_icmp .ge 65, 3) := by decide +kernel
theorem dX9_rests_113 : decode cX9_rests 113 = .ok (.iload 6, 2) := by decide +kernel
theorem dX9_rests_115 : decode cX9_rests 115 = .ok (.istore 7, 2) := by decide +kernel
theorem dX9_rests_117 : decode cX9_rests 117 = .ok (.iconst 0, 1) := by decide +kernel
theorem dX9_rests_118 : decode cX9_rests 118 = .ok (.istore 8, 2) := by decide +kernel
theorem dX9_rests_120 : decode cX9_rests 120 = .ok (.iload 8, 2) := by decide +kernel
theorem dX9_rests_122 : decode cX9_rests 122 = .ok (.aload_n 0, 1) := by decide +kernel
theorem dX9_rests_123 : decode cX9_rests 123 = .ok (.getfield 19, 3) := by decide +kernel
theorem dX9_rests_126 : decode cX9_rests 126 = .ok (.getfield 97, 3) := by decide +kernel
theorem dX9_rests_129 : decode cX9_rests 129 = .ok (.if_icmp .ge 29, 3) := by decide +kernel
theorem dX9_rests_132 : decode cX9_rests 132 = .ok (.aload_n 2, 1) := by decide +kernel
theorem dX9_rests_133 : decode cX9_rests 133 = .ok (.getfield 110, 3) := by decide +kernel
theorem dX9_rests_136 : decode cX9_rests 136 = .ok (.iload 8, 2) := by decide +kernel
theorem dX9_rests_138 : decode cX9_rests 138 = .ok (.aaload, 1) := by decide +kernel
theorem dX9_rests_139 : decode cX9_rests 139 = .ok (.iload 7, 2) := by decide +kernel
theorem dX9_rests_141 : decode cX9_rests 141 = .ok (.iload_n 3, 1) := by decide +kernel
theorem dX9_rests_142 : decode cX9_rests 142 = .ok (.irem, 1) := by decide +kernel
theorem dX9_rests_143 : decode cX9_rests 143 = .ok (.putfield 114, 3) := by decide +kernel
theorem dX9_rests_146 : decode cX9_rests 146 = .ok (.iload 7, 2) := by decide +kernel
theorem dX9_rests_148 : decode cX9_rests 148 = .ok (.iload_n 3, 1) := by decide +kernel
theorem dX9_rests_149 : decode cX9_rests 149 = .ok (.idiv, 1) := by decide +kernel
theorem dX9_rests_150 : decode cX9_rests 150 = .ok (.istore 7, 2) := by decide +kernel
theorem dX9_rests_152 : decode cX9_rests 152 = .ok (.iinc 8 1, 3) := by decide +kernel
theorem dX9_rests_155 : decode cX9_rests 155 = .ok (.goto (-35), 3) := by decide +kernel
theorem dX9_rests_158 : decode cX9_rests 158 = .ok (.aload_n 0, 1) := by decide +kernel
theorem dX9_rests_159 : decode cX9_rests 159 = .ok (.aload_n 2, 1) := by decide +kernel
theorem dX9_rests_160 : decode cX9_rests 160 = .ok (.invokevirtual 265, 3) := by decide +kernel
theorem dX9_rests_163 : decode cX9_rests 163 = .ok (.ifCond .ne 6, 3) := by decide +kernel
theorem dX9_rests_166 : decode cX9_rests 166 = .ok (.iinc 5 1, 3) := by decide +kernel
theorem dX9_rests_169 : decode cX9_rests 169 = .ok (.iinc 6 1, 3) := by decide +kernel
theorem dX9_rests_172 : decode cX9_rests 172 = .ok (.goto (-66), 3) := by decide +kernel
theorem dX9_rests_175 : decode cX9_rests 175 = .ok (.iload 5, 2) := by decide +kernel
theorem dX9_rests_177 : decode cX9_rests 177 = .ok (.ireturn, 1) := by decide +kernel
theorem dX9_total_0 : decode cX9_total 0 = .ok (.aload_n 0, 1) := by decide +kernel
theorem dX9_total_1 : decode cX9_total 1 = .ok (.iload_n 1, 1) := by decide +kernel
theorem dX9_total_2 : decode cX9_total 2 = .ok (.i2l, 1) := by decide +kernel
theorem dX9_total_3 : decode cX9_total 3 = .ok (.invokevirtual 100, 3) := by decide +kernel
theorem dX9_total_6 : decode cX9_total 6 = .ok (.ifCond .eq 28, 3) := by decide +kernel
theorem dX9_total_9 : decode cX9_total 9 = .ok (.iload_n 2, 1) := by decide +kernel
theorem dX9_total_10 : decode cX9_total 10 = .ok (.i2l, 1) := by decide +kernel
theorem dX9_total_11 : decode cX9_total 11 = .ok (.invokestatic 282, 3) := by decide +kernel
theorem dX9_total_14 : decode cX9_total 14 = .ok (.ifCond .eq 20, 3) := by decide +kernel
theorem dX9_total_17 : decode cX9_total 17 = .ok (.iload_n 3, 1) := by decide +kernel
theorem dX9_total_18 : decode cX9_total 18 = .ok (.invokestatic 104, 3) := by decide +kernel
theorem dX9_total_21 : decode cX9_total 21 = .ok (.ifCond .eq 13, 3) := by decide +kernel
theorem dX9_total_24 : decode cX9_total 24 = .ok (.aload_n 0, 1) := by decide +kernel
theorem dX9_total_25 : decode cX9_total 25 = .ok (.iload_n 1, 1) := by decide +kernel
theorem dX9_total_26 : decode cX9_total 26 = .ok (.iload_n 2, 1) := by decide +kernel
theorem dX9_total_27 : decode cX9_total 27 = .ok (.iload_n 3, 1) := by decide +kernel
theorem dX9_total_28 : decode cX9_total 28 = .ok (.invokevirtual 285, 3) := by decide +kernel
theorem dX9_total_31 : decode cX9_total 31 = .ok (.goto 5, 3) := by decide +kernel
