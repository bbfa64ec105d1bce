theorem dX10_town_18 : decode cX10_town 18 = .ok (.aload_n 0, 1) := by decide +kernel
theorem dX10_town_19 : decode cX10_town 19 = .ok (.iconst 0, 1) := by decide +kernel
theorem dX10_town_20 : decode cX10_town 20 = .ok (.putfield 147, 3) := by decide +kernel
theorem dX10_town_23 : decode cX10_town 23 = .ok (.aload_n 0, 1) := by decide +kernel
theorem dX10_town_24 : decode cX10_town 24 = .ok (.iconst (-1), 1) := by decide +kernel
theorem dX10_town_25 : decode cX10_town 25 = .ok (.putfield 35, 3) := by decide +kernel
theorem dX10_town_28 : decode cX10_town 28 = .ok (.aload_n 0, 1) := by decide +kernel
theorem dX10_town_29 : decode cX10_town 29 = .ok (.getfield 38, 3) := by decide +kernel
theorem dX10_town_32 : decode cX10_town 32 = .ok (.invokestatic 92, 3) := by decide +kernel
theorem dX10_town_35 : decode cX10_town 35 = .ok (.aload_n 0, 1) := by decide +kernel
theorem dX10_town_36 : decode cX10_town 36 = .ok (.invokevirtual 168, 3) := by decide +kernel
theorem dX10_town_39 : decode cX10_town 39 = .ok (.aload_n 0, 1) := by decide +kernel
theorem dX10_town_40 : decode cX10_town 40 = .ok (.invokevirtual 150, 3) := by decide +kernel
theorem dX10_town_43 : decode cX10_town 43 = .ok (.ifCond .eq 17, 3) := by decide +kernel
theorem dX10_town_46 : decode cX10_town 46 = .ok (.aload_n 0, 1) := by decide +kernel
theorem dX10_town_47 : decode cX10_town 47 = .ok (.getfield 126, 3) := by decide +kernel
theorem dX10_town_50 : decode cX10_town 50 = .ok (.ifCond .eq 10, 3) := by decide +kernel
theorem dX10_town_53 : decode cX10_town 53 = .ok (.aload_n 0, 1) := by decide +kernel
theorem dX10_town_54 : decode cX10_town 54 = .ok (.invokevirtual 259, 3) := by decide +kernel
theorem dX10_town_57 : decode cX10_town 57 = .ok (.goto (-18), 3) := by decide +kernel
theorem dX10_town_60 : decode cX10_town 60 = .ok (.aload_n 0, 1) := by decide +kernel
theorem dX10_town_61 : decode cX10_town 61 = .ok (.invokevirtual 150, 3) := by decide +kernel
theorem dX10_town_64 : decode cX10_town 64 = .ok (.ifCond .ne 6, 3) := by decide +kernel
theorem dX10_town_67 : decode cX10_town 67 = .ok (.bipush (-4), 2) := by decide +kernel
theorem dX10_town_69 : decode cX10_town 69 = .ok (.ireturn, 1) := by decide +kernel
theorem dX10_town_70 : decode cX10_town 70 = .ok (.iconst 0, 1) := by decide +kernel
theorem dX10_town_71 : decode cX10_town 71 = .ok (.istore_n 1, 1) := by decide +kernel
theorem dX10_town_72 : decode cX10_town 72 = .ok (.iload_n 1, 1) := by decide +kernel
theorem dX10_town_73 : decode cX10_town 73 = .ok (.sipush 178, 3) := by decide +kernel
theorem dX10_town_76 : decode cX10_town 76 = .ok (.if_icmp .ge 21, 3) := by decide +kernel
theorem dX10_town_79 : decode cX10_town 79 = .ok (.aload_n 0, 1) := by decide +kernel
theorem dX10_town_80 : decode cX10_town 80 = .ok (.getfield 13, 3) := by decide +kernel
theorem dX10_town_83 : decode cX10_town 83 = .ok (.iload_n 1, 1) := by decide +kernel
theorem dX10_town_84 : decode cX10_town 84 = .ok (.aload_n 0, 1) := by decide +kernel
theorem dX10_town_85 : decode cX10_town 85 = .ok (.getfield 38, 3) := by decide +kernel
theorem dX10_town_88 : decode cX10_town 88 = .ok (.iload_n 1, 1) := by decide +kernel
theorem dX10_town_89 : decode cX10_town 89 = .ok (.iaload, 1) := by decide +kernel
theorem dX10_town_90 : decode cX10_town 90 = .ok (.iastore, 1) := by decide +kernel
theorem dX10_town_91 : decode cX10_town 91 = .ok (.iinc 1 1, 3) := by decide +kernel
theorem dX10_town_94 : decode cX10_town 94 = .ok (.goto (-22), 3) := by decide +kernel
theorem dX10_town_97 : decode cX10_town 97 = .ok (.aload_n 0, 1) := by decide +kernel
theorem dX10_town_98 : decode cX10_town 98 = .ok (.lconst 0, 1) := by decide +kernel
theorem dX10_town_99 : decode cX10_town 99 = .ok (.putfield 102, 3) := by decide +kernel
theorem dX10_town_102 : decode cX10_town 102 = .ok (.aload_n 0, 1) := by decide +kernel
theorem dX10_town_103 : decode cX10_town 103 = .ok (.getfield 13, 3) := by decide +kernel
theorem dX10_town_106 : decode cX10_town 106 = .ok (.iconst 0, 1) := by decide +kernel
theorem dX10_town_107 : decode cX10_town 107 = .ok (.iaload, 1) := by decide +kernel
theorem dX10_town_108 : decode cX10_town 108 = .ok (.ireturn, 1) := by decide +kernel
theorem dX10_draw_0 : decode cX10_draw 0 = .ok (.aload_n 0, 1) := by decide +kernel
theorem dX10_draw_1 : decode cX10_draw 1 = .ok (.ldc2_w 262, 3) := by decide +kernel
theorem dX10_draw_4 : decode cX10_draw 4 = .ok (.aload_n 0, 1) := by decide +kernel
theorem dX10_draw_5 : decode cX10_draw 5 = .ok (.getfield 102, 3) := by decide +kernel
theorem dX10_draw_8 : decode cX10_draw 8 = .ok (.lmul, 1) := by decide +kernel
theorem dX10_draw_9 : decode cX10_draw 9 = .ok (.ldc2_w 264, 3) := by decide +kernel
theorem dX10_draw_12 : decode cX10_draw 12 = .ok (.ladd, 1) := by decide +kernel
theorem dX10_draw_13 : decode cX10_draw 13 = .ok (.ldc2_w 266, 3) := by decide +kernel
theorem dX10_draw_16 : decode cX10_draw 16 = .ok (.lrem, 1) := by decide +kernel
theorem dX10_draw_17 : decode cX10_draw 17 = .ok (.putfield 102, 3) := by decide +kernel
theorem dX10_draw_20 : decode cX10_draw 20 = .ok (.aload_n 0, 1) := by decide +kernel
theorem dX10_draw_21 : decode cX10_draw 21 = .ok (.getfield 102, 3) := by decide +kernel
theorem dX10_draw_24 : decode cX10_draw 24 = .ok (.ldc2_w 268, 3) := by decide +kernel
theorem dX10_draw_27 : decode cX10_draw 27 = .ok (.ldiv, 1) := by decide +kernel
theorem dX10_draw_28 : decode cX10_draw 28 = .ok (.ldc2_w 270, 3) := by decide +kernel
theorem dX10_draw_31 : decode cX10_draw 31 = .ok (.lrem, 1) := by decide +kernel
theorem dX10_draw_32 : decode cX10_draw 32 = .ok (.l2i, 1) := by decide +kernel
theorem dX10_draw_33 : decode cX10_draw 33 = .ok (.ireturn, 1) := by decide +kernel
theorem dX10_has_0 : decode cX10_has 0 = .ok (.aload_n 0, 1) := by decide +kernel
theorem dX10_has_1 : decode cX10_has 1 = .ok (.iload_n 1, 1) := by decide +kernel
theorem dX10_has_2 : decode cX10_has 2 = .ok (.iconst 0, 1) := by decide +kernel
theorem dX10_has_3 : decode cX10_has 3 = .ok (.aload_n 0, 1) := by decide +kernel
theorem dX10_has_4 : decode cX10_has 4 = .ok (.getfield 13, 3) := by decide +kernel
theorem dX10_has_7 : decode cX10_has 7 = .ok (.iconst 1, 1) := by decide +kernel
theorem dX10_has_8 : decode cX10_has 8 = .ok (.iaload, 1) := by decide +kernel
theorem dX10_has_9 : decode cX10_has 9 = .ok (.iload_n 2, 1) := by decide +kernel
theorem dX10_has_10 : decode cX10_has 10 = .ok (.invokestatic 141, 3) := by decide +kernel
theorem dX10_has_13 : decode cX10_has 13 = .ok (.invokevirtual 272, 3) := by decide +kernel
theorem dX10_has_16 : decode cX10_has 16 = .ok (.aload_n 0, 1) := by decide +kernel
theorem dX10_has_17 : decode cX10_has 17 = .ok (.iload_n 1, 1) := by decide +kernel
theorem dX10_has_18 : decode cX10_has 18 = .ok (.iconst 1, 1) := by decide +kernel
theorem dX10_has_19 : decode cX10_has 19 = .ok (.aload_n 0, 1) := by decide +kernel
theorem dX10_has_20 : decode cX10_has 20 = .ok (.iload_n 1, 1) := by decide +kernel
theorem dX10_has_21 : decode cX10_has 21 = .ok (.iconst 1, 1) := by decide +kernel
theorem dX10_has_22 : decode cX10_has 22 = .ok (.invokevirtual 276, 3) := by decide +kernel
theorem dX10_has_25 : decode cX10_has 25 = .ok (.aload_n 0, 1) := by decide +kernel
theorem dX10_has_26 : decode cX10_has 26 = .ok (.iload_n 1, 1) := by decide +kernel
theorem dX10_has_27 : decode cX10_has 27 = .ok (.iconst 0, 1) := by decide +kernel
theorem dX10_has_28 : decode cX10_has 28 = .ok (.invokevirtual 276, 3) := by decide +kernel
theorem dX10_has_31 : decode cX10_has 31 = .ok (.invokestatic 141, 3) := by decide +kernel
theorem dX10_has_34 : decode cX10_has 34 = .ok (.invokevirtual 272, 3) := by decide +kernel
theorem dX10_has_37 : decode cX10_has 37 = .ok (.return_, 1) := by decide +kernel
theorem dX10_shown_0 : decode cX10_shown 0 = .ok (.aload_n 0, 1) := by decide +kernel
theorem dX10_shown_1 : decode cX10_shown 1 = .ok (.iload_n 1, 1) := by decide +kernel
theorem dX10_shown_2 : decode cX10_shown 2 = .ok (.iconst 0, 1) := by decide +kernel
theorem dX10_shown_3 : decode cX10_shown 3 = .ok (.invokevirtual 276, 3) := by decide +kernel
theorem dX10_shown_6 : decode cX10_shown 6 = .ok (.aload_n 0, 1) := by decide +kernel
theorem dX10_shown_7 : decode cX10_shown 7 = .ok (.iload_n 1, 1) := by decide +kernel
theorem dX10_shown_8 : decode cX10_shown 8 = .ok (.iconst 1, 1) := by decide +kernel
theorem dX10_shown_9 : decode cX10_shown 9 = .ok (.invokevirtual 276, 3) := by decide +kernel
theorem dX10_shown_12 : decode cX10_shown 12 = .ok (.isub, 1) := by decide +kernel
theorem dX10_shown_13 : decode cX10_shown 13 = .ok (.ireturn, 1) := by decide +kernel
theorem dX10_sees_0 : decode cX10_sees 0 = .ok (.aload_n 0, 1) := by decide +kernel
theorem dX10_sees_1 : decode cX10_sees 1 = .ok (.getfield 13, 3) := by decide +kernel
theorem dX10_sees_4 : decode cX10_sees 4 = .ok (.bipush 96, 2) := by decide +kernel
theorem dX10_sees_6 : decode cX10_sees 6 = .ok (.bipush 8, 2) := by decide +kernel
theorem dX10_sees_8 : decode cX10_sees 8 = .ok (.iload_n 1, 1) := by decide +kernel
theorem dX10_sees_9 : decode cX10_sees 9 = .ok (.imul, 1) := by decide +kernel
theorem dX10_sees_10 : decode cX10_sees 10 = .ok (.iadd, 1) := by decide +kernel
theorem dX10_sees_11 : decode cX10_sees 11 = .ok (.iload_n 2, 1) := by decide +kernel
theorem dX10_sees_12 : decode cX10_sees 12 = .ok (.iadd, 1) := by decide +kernel
theorem dX10_sees_13 : decode cX10_sees 13 = .ok (.iaload, 1) := by decide +kernel
theorem dX10_sees_14 : decode cX10_sees 14 = .ok (.istore_n 3, 1) := by decide +kernel
theorem dX10_sees_15 : decode cX10_sees 15 = .ok (.aload_n 0, 1) := by decide +kernel
theorem dX10_sees_16 : decode cX10_sees 16 = .ok (.iload_n 2, 1) := by decide +kernel
theorem dX10_sees_17 : decode cX10_sees 17 = .ok (.invokevirtual 279, 3) := by decide +kernel
theorem dX10_sees_20 : decode cX10_sees 20 = .ok (.iload_n 3, 1) := by decide +kernel
theorem dX10_sees_21 : decode cX10_sees 21 = .ok (.idiv, 1) := by decide +kernel
theorem dX10_sees_22 : decode cX10_sees 22 = .ok (.iload_n 3, 1) := by decide +kernel
theorem dX10_sees_23 : decode cX10_sees 23 = .ok (.imul, 1) := by decide +kernel
theorem dX10_sees_24 : decode cX10_sees 24 = .ok (.ireturn, 1) := by decide +kernel
theorem dX10_person_0 : decode cX10_person 0 = .ok (.aload_n 0, 1) := by decide +kernel
theorem dX10_person_1 : decode cX10_person 1 = .ok (.iload_n 1, 1) := by decide +kernel
theorem dX10_person_2 : decode cX10_person 2 = .ok (.invokevirtual 106, 3) := by decide +kernel
theorem dX10_person_5 : decode cX10_person 5 = .ok (.ifCond .eq 15, 3) := by decide +kernel
theorem dX10_person_8 : decode cX10_person 8 = .ok (.iload_n 2, 1) := by decide +kernel
theorem dX10_person_9 : decode cX10_person 9 = .ok (.i2l, 1) := by decide +kernel
theorem dX10_person_10 : decode cX10_person 10 = .ok (.lconst 0, 1) := by decide +kernel
theorem dX10_person_11 : decode cX10_person 11 = .ok (.ldc2_w 282, 3) := by decide +kernel
theorem dX10_person_14 : decode cX10_person 14 = .ok (.invokestatic 98, 3) := by decide +kernel
theorem dX10_person_17 : decode cX10_person 17 = .ok (.ifCond .ne 6, 3) := by decide +kernel
theorem dX10_person_20 : decode cX10_person 20 = .ok (.bipush (-2), 2) := by decide +kernel
theorem dX10_person_22 : decode cX10_person 22 = .ok (.ireturn, 1) := by decide +kernel
theorem dX10_person_23 : decode cX10_person 23 = .ok (.aload_n 0, 1) := by decide +kernel
theorem dX10_person_24 : decode cX10_person 24 = .ok (.iload_n 1, 1) := by decide +kernel
theorem dX10_person_25 : decode cX10_person 25 = .ok (.iload_n 2, 1) := by decide +kernel
theorem dX10_person_26 : decode cX10_person 26 = .ok (.iconst 3, 1) := by decide +kernel
theorem dX10_person_27 : decode cX10_person 27 = .ok (.if_icmp .ge 7, 3) := by decide +kernel
theorem dX10_person_30 : decode cX10_person 30 = .ok (.iload_n 2, 1) := by decide +kernel
theorem dX10_person_31 : decode cX10_person 31 = .ok (.goto 4, 3) := by decide +kernel
theorem dX10_person_34 : decode cX10_person 34 = .ok (.iconst 4, 1) := by decide +kernel
theorem dX10_person_35 : decode cX10_person 35 = .ok (.invokevirtual 276, 3) := by decide +kernel
theorem dX10_person_38 : decode cX10_person 38 = .ok (.ireturn, 1) := by decide +kernel
theorem dX10_have_0 : decode cX10_have 0 = .ok (.aload_n 0, 1) := by decide +kernel
theorem dX10_have_1 : decode cX10_have 1 = .ok (.iload_n 1, 1) := by decide +kernel
theorem dX10_have_2 : decode cX10_have 2 = .ok (.invokevirtual 106, 3) := by decide +kernel
theorem dX10_have_5 : decode cX10_have 5 = .ok (.ifCond .eq 19, 3) := by decide +kernel
theorem dX10_have_8 : decode cX10_have 8 = .ok (.iload_n 2, 1) := by decide +kernel
theorem dX10_have_9 : decode cX10_have 9 = .ok (.i2l, 1) := by decide +kernel
theorem dX10_have_10 : decode cX10_have 10 = .ok (.lconst 0, 1) := by decide +kernel
theorem dX10_have_11 : decode cX10_have 11 = .ok (.aload_n 0, 1) := by decide +kernel
theorem dX10_have_12 : decode cX10_have 12 = .ok (.getfield 13, 3) := by decide +kernel
theorem dX10_have_15 : decode cX10_have 15 = .ok (.iconst 1, 1) := by decide +kernel
theorem dX10_have_16 : decode cX10_have 16 = .ok (.iaload, 1) := by decide +kernel
theorem dX10_have_17 : decode cX10_have 17 = .ok (.i2l, 1) := by decide +kernel
theorem dX10_have_18 : decode cX10_have 18 = .ok (.invokestatic 98, 3) := by decide +kernel
theorem dX10_have_21 : decode cX10_have 21 = .ok (.ifCond .ne 6, 3) := by decide +kernel
theorem dX10_have_24 : decode cX10_have 24 = .ok (.bipush (-2), 2) := by decide +kernel
theorem dX10_have_26 : decode cX10_have 26 = .ok (.ireturn, 1) := by decide +kernel
theorem dX10_have_27 : decode cX10_have 27 = .ok (.aload_n 0, 1) := by decide +kernel
theorem dX10_have_28 : decode cX10_have 28 = .ok (.iload_n 1, 1) := by decide +kernel
theorem dX10_have_29 : decode cX10_have 29 = .ok (.iconst 0, 1) := by decide +kernel
theorem dX10_have_30 : decode cX10_have 30 = .ok (.invokevirtual 276, 3) := by decide +kernel
theorem dX10_have_33 : decode cX10_have 33 = .ok (.istore_n 3, 1) := by decide +kernel
theorem dX10_have_34 : decode cX10_have 34 = .ok (.aload_n 0, 1) := by decide +kernel
theorem dX10_have_35 : decode cX10_have 35 = .ok (.iload_n 1, 1) := by decide +kernel
theorem dX10_have_36 : decode cX10_have 36 = .ok (.iload_n 2, 1) := by decide +kernel
theorem dX10_have_37 : decode cX10_have 37 = .ok (.invokevirtual 284, 3) := by decide +kernel
theorem dX10_have_40 : decode cX10_have 40 = .ok (.iload_n 3, 1) := by decide +kernel
theorem dX10_have_41 : decode cX10_have 41 = .ok (.ireturn, 1) := by decide +kernel
theorem dX10_hide_0 : decode cX10_hide 0 = .ok (.aload_n 0, 1) := by decide +kernel
theorem dX10_hide_1 : decode cX10_hide 1 = .ok (.iload_n 1, 1) := by decide +kernel
theorem dX10_hide_2 : decode cX10_hide 2 = .ok (.invokevirtual 106, 3) := by decide +kernel
theorem dX10_hide_5 : decode cX10_hide 5 = .ok (.ifCond .eq 15, 3) := by decide +kernel
theorem dX10_hide_8 : decode cX10_hide 8 = .ok (.iload_n 2, 1) := by decide +kernel
theorem dX10_hide_9 : decode cX10_hide 9 = .ok (.i2l, 1) := by decide +kernel
theorem dX10_hide_10 : decode cX10_hide 10 = .ok (.lconst 0, 1) := by decide +kernel
theorem dX10_hide_11 : decode cX10_hide 11 = .ok (.ldc2_w 287, 3) := by decide +kernel
theorem dX10_hide_14 : decode cX10_hide 14 = .ok (.invokestatic 98, 3) := by decide +kernel
theorem dX10_hide_17 : decode cX10_hide 17 = .ok (.ifCond .ne 6, 3) := by decide +kernel
theorem dX10_hide_20 : decode cX10_hide 20 = .ok (.bipush (-2), 2) := by decide +kernel
theorem dX10_hide_22 : decode cX10_hide 22 = .ok (.ireturn, 1) := by decide +kernel
theorem dX10_hide_23 : decode cX10_hide 23 = .ok (.aload_n 0, 1) := by decide +kernel
theorem dX10_hide_24 : decode cX10_hide 24 = .ok (.iload_n 1, 1) := by decide +kernel
theorem dX10_hide_25 : decode cX10_hide 25 = .ok (.iconst 1, 1) := by decide +kernel
theorem dX10_hide_26 : decode cX10_hide 26 = .ok (.iload_n 2, 1) := by decide +kernel
theorem dX10_hide_27 : decode cX10_hide 27 = .ok (.aload_n 0, 1) := by decide +kernel
theorem dX10_hide_28 : decode cX10_hide 28 = .ok (.iload_n 1, 1) := by decide +kernel
theorem dX10_hide_29 : decode cX10_hide 29 = .ok (.iconst 0, 1) := by decide +kernel
theorem dX10_hide_30 : decode cX10_hide 30 = .ok (.invokevirtual 276, 3) := by decide +kernel
theorem dX10_hide_33 : decode cX10_hide 33 = .ok (.invokestatic 141, 3) := by decide +kernel
theorem dX10_hide_36 : decode cX10_hide 36 = .ok (.invokevirtual 272, 3) := by decide +kernel
theorem dX10_hide_39 : decode cX10_hide 39 = .ok (.aload_n 0, 1) := by decide +kernel
theorem dX10_hide_40 : decode cX10_hide 40 = .ok (.iload_n 1, 1) := by decide +kernel
theorem dX10_hide_41 : decode cX10_hide 41 = .ok (.iconst 1, 1) := by decide +kernel
theorem dX10_hide_42 : decode cX10_hide 42 = .ok (.invokevirtual 276, 3) := by decide +kernel
theorem dX10_hide_45 : decode cX10_hide 45 = .ok (.ireturn, 1) := by decide +kernel
theorem dX10_seen_0 : decode cX10_seen 0 = .ok (.aload_n 0, 1) := by decide +kernel
theorem dX10_seen_1 : decode cX10_seen 1 = .ok (.iload_n 1, 1) := by decide +kernel
theorem dX10_seen_2 : decode cX10_seen 2 = .ok (.iload_n 2, 1) := by decide +kernel
theorem dX10_seen_3 : decode cX10_seen 3 = .ok (.invokevirtual 289, 3) := by decide +kernel
theorem dX10_seen_6 : decode cX10_seen 6 = .ok (.ifCond .eq 12, 3) := by decide +kernel
theorem dX10_seen_9 : decode cX10_seen 9 = .ok (.aload_n 0, 1) := by decide +kernel
theorem dX10_seen_10 : decode cX10_seen 10 = .ok (.iload_n 1, 1) := by decide +kernel
theorem dX10_seen_11 : decode cX10_seen 11 = .ok (.iload_n 2, 1) := by decide +kernel
theorem dX10_seen_12 : decode cX10_seen 12 = .ok (.invokevirtual 293, 3) := by decide +kernel
theorem dX10_seen_15 : decode cX10_seen 15 = .ok (.goto 5, 3) := by decide +kernel
theorem dX10_seen_18 : decode cX10_seen 18 = .ok (.bipush (-2), 2) := by decide +kernel
theorem dX10_seen_20 : decode cX10_seen 20 = .ok (.ireturn, 1) := by decide +kernel
theorem dX10_sight_0 : decode cX10_sight 0 = .ok (.aload_n 0, 1) := by decide +kernel
theorem dX10_sight_1 : decode cX10_sight 1 = .ok (.iload_n 1, 1) := by decide +kernel
theorem dX10_sight_2 : decode cX10_sight 2 = .ok (.iload_n 2, 1) := by decide +kernel
theorem dX10_sight_3 : decode cX10_sight 3 = .ok (.invokevirtual 289, 3) := by decide +kernel
theorem dX10_sight_6 : decode cX10_sight 6 = .ok (.ifCond .eq 15, 3) := by decide +kernel
theorem dX10_sight_9 : decode cX10_sight 9 = .ok (.iload_n 3, 1) := by decide +kernel
theorem dX10_sight_10 : decode cX10_sight 10 = .ok (.i2l, 1) := by decide +kernel
theorem dX10_sight_11 : decode cX10_sight 11 = .ok (.lconst 1, 1) := by decide +kernel
theorem dX10_sight_12 : decode cX10_sight 12 = .ok (.ldc2_w 287, 3) := by decide +kernel
theorem dX10_sight_15 : decode cX10_sight 15 = .ok (.invokestatic 98, 3) := by decide +kernel
theorem dX10_sight_18 : decode cX10_sight 18 = .ok (.ifCond .ne 6, 3) := by decide +kernel
theorem dX10_sight_21 : decode cX10_sight 21 = .ok (.bipush (-2), 2) := by decide +kernel
theorem dX10_sight_23 : decode cX10_sight 23 = .ok (.ireturn, 1) := by decide +kernel
theorem dX10_sight_24 : decode cX10_sight 24 = .ok (.aload_n 0, 1) := by decide +kernel
theorem dX10_sight_25 : decode cX10_sight 25 = .ok (.getfield 13, 3) := by decide +kernel
theorem dX10_sight_28 : decode cX10_sight 28 = .ok (.bipush 96, 2) := by decide +kernel
theorem dX10_sight_30 : decode cX10_sight 30 = .ok (.bipush 8, 2) := by decide +kernel
theorem dX10_sight_32 : decode cX10_sight 32 = .ok (.iload_n 1, 1) := by decide +kernel
theorem dX10_sight_33 : decode cX10_sight 33 = .ok (.imul, 1) := by decide +kernel
theorem dX10_sight_34 : decode cX10_sight 34 = .ok (.iadd, 1) := by decide +kernel
theorem dX10_sight_35 : decode cX10_sight 35 = .ok (.iload_n 2, 1) := by decide +kernel
theorem dX10_sight_36 : decode cX10_sight 36 = .ok (.iadd, 1) := by decide +kernel
theorem dX10_sight_37 : decode cX10_sight 37 = .ok (.iaload, 1) := by decide +kernel
theorem dX10_sight_38 : decode cX10_sight 38 = .ok (.istore 4, 2) := by decide +kernel
theorem dX10_sight_40 : decode cX10_sight 40 = .ok (.aload_n 0, 1) := by decide +kernel
theorem dX10_sight_41 : decode cX10_sight 41 = .ok (.getfield 13, 3) := by decide +kernel
theorem dX10_sight_44 : decode cX10_sight 44 = .ok (.bipush 96, 2) := by decide +kernel
theorem dX10_sight_46 : decode cX10_sight 46 = .ok (.bipush 8, 2) := by decide +kernel
theorem dX10_sight_48 : decode cX10_sight 48 = .ok (.iload_n 1, 1) := by decide +kernel
theorem dX10_sight_49 : decode cX10_sight 49 = .ok (.imul, 1) := by decide +kernel
theorem dX10_sight_50 : decode cX10_sight 50 = .ok (.iadd, 1) := by decide +kernel
theorem dX10_sight_51 : decode cX10_sight 51 = .ok (.iload_n 2, 1) := by decide +kernel
theorem dX10_sight_52 : decode cX10_sight 52 = .ok (.iadd, 1) := by decide +kernel
theorem dX10_sight_53 : decode cX10_sight 53 = .ok (.iload_n 3, 1) := by decide +kernel
theorem dX10_sight_54 : decode cX10_sight 54 = .ok (.iastore, 1) := by decide +kernel
theorem dX10_sight_55 : decode cX10_sight 55 = .ok (.iload 4, 2) := by decide +kernel
theorem dX10_sight_57 : decode cX10_sight 57 = .ok (.ireturn, 1) := by decide +kernel
theorem dX10_most_0 : decode cX10_most 0 = .ok (.iconst 0, 1) := by decide +kernel
theorem dX10_most_1 : decode cX10_most 1 = .ok (.istore_n 1, 1) := by decide +kernel
theorem dX10_most_2 : decode cX10_most 2 = .ok (.iconst 0, 1) := by decide +kernel
theorem dX10_most_3 : decode cX10_most 3 = .ok (.istore_n 2, 1) := by decide +kernel
theorem dX10_most_4 : decode cX10_most 4 = .ok (.iload_n 2, 1) := by decide +kernel
theorem dX10_most_5 : decode cX10_most 5 = .ok (.aload_n 0, 1) := by decide +kernel
theorem dX10_most_6 : decode cX10_most 6 = .ok (.invokevirtual 295, 3) := by decide +kernel
theorem dX10_most_9 : decode cX10_most 9 = .ok (.if_icmp .ge 19, 3) := by decide +kernel
theorem dX10_most_12 : decode cX10_most 12 = .ok (.iload_n 1, 1) := by decide +kernel
theorem dX10_most_13 : decode cX10_most 13 = .ok (.aload_n 0, 1) := by decide +kernel
theorem dX10_most_14 : decode cX10_most 14 = .ok (.iload_n 2, 1) := by decide +kernel
theorem dX10_most_15 : decode cX10_most 15 = .ok (.invokevirtual 279, 3) := by decide +kernel
theorem dX10_most_18 : decode cX10_most 18 = .ok (.invokestatic 298, 3) := by decide +kernel
theorem dX10_most_21 : decode cX10_most 21 = .ok (.istore_n 1, 1) := by decide +kernel
theorem dX10_most_22 : decode cX10_most 22 = .ok (.iinc 2 1, 3) := by decide +kernel
theorem dX10_most_25 : decode cX10_most 25 = .ok (.goto (-21), 3) := by decide +kernel
theorem dX10_most_28 : decode cX10_most 28 = .ok (.iload_n 1, 1) := by decide +kernel
theorem dX10_most_29 : decode cX10_most 29 = .ok (.ireturn, 1) := by decide +kernel
theorem dX10_nextMost_0 : decode cX10_nextMost 0 = .ok (.aload_n 0, 1) := by decide +kernel
theorem dX10_nextMost_1 : decode cX10_nextMost 1 = .ok (.invokevirtual 301, 3) := by decide +kernel
theorem dX10_nextMost_4 : decode cX10_nextMost 4 = .ok (.istore_n 1, 1) := by decide +kernel
theorem dX10_nextMost_5 : decode cX10_nextMost 5 = .ok (.iconst 0, 1) := by decide +kernel
theorem dX10_nextMost_6 : decode cX10_nextMost 6 = .ok (.istore_n 2, 1) := by decide +kernel
theorem dX10_nextMost_7 : decode cX10_nextMost 7 = .ok (.iconst 0, 1) := by decide +kernel
theorem dX10_nextMost_8 : decode cX10_nextMost 8 = .ok (.istore_n 3, 1) := by decide +kernel
theorem dX10_nextMost_9 : decode cX10_nextMost 9 = .ok (.iload_n 3, 1) := by decide +kernel
theorem dX10_nextMost_10 : decode cX10_nextMost 10 = .ok (.aload_n 0, 1) := by decide +kernel
theorem dX10_nextMost_11 : decode cX10_nextMost 11 = .ok (.invokevirtual 295, 3) := by decide +kernel
theorem dX10_nextMost_14 : decode cX10_nextMost 14 = .ok (.if_icmp .ge 32, 3) := by decide +kernel
theorem dX10_nextMost_17 : decode cX10_nextMost 17 = .ok (.aload_n 0, 1) := by decide +kernel
theorem dX10_nextMost_18 : decode cX10_nextMost 18 = .ok (.iload_n 3, 1) := by decide +kernel
theorem dX10_nextMost_19 : decode cX10_nextMost 19 = .ok (.invokevirtual 279, 3) := by decide +kernel
theorem dX10_nextMost_22 : decode cX10_nextMost 22 = .ok (.iload_n 1, 1) := by decide +kernel
theorem dX10_nextMost_23 : decode cX10_nextMost 23 = .ok (.if_icmp .ge 15, 3) := by decide +kernel
theorem dX10_nextMost_26 : decode cX10_nextMost 26 = .ok (.iload_n 2, 1) := by decide +kernel
theorem dX10_nextMost_27 : decode cX10_nextMost 27 = .ok (.aload_n 0, 1) := by decide +kernel
theorem dX10_nextMost_28 : decode cX10_nextMost 28 = .ok (.iload_n 3, 1) := by decide +kernel
theorem dX10_nextMost_29 : decode cX10_nextMost 29 = .ok (.invokevirtual 279, 3) := by decide +kernel
theorem dX10_nextMost_32 : decode cX10_nextMost 32 = .ok (.invokestatic 298, 3) := by decide +kernel
theorem dX10_nextMost_35 : decode cX10_nextMost 35 = .ok (.goto 4, 3) := by decide +kernel
theorem dX10_nextMost_38 : decode cX10_nextMost 38 = .ok (.iload_n 2, 1) := by decide +kernel
theorem dX10_nextMost_39 : decode cX10_nextMost 39 = .ok (.istore_n 2, 1) := by decide +kernel
theorem dX10_nextMost_40 : decode cX10_nextMost 40 = .ok (.iinc 3 1, 3) := by decide +kernel
theorem dX10_nextMost_43 : decode cX10_nextMost 43 = .ok (.goto (-34), 3) := by decide +kernel
theorem dX10_nextMost_46 : decode cX10_nextMost 46 = .ok (.iload_n 2, 1) := by decide +kernel
theorem dX10_nextMost_47 : decode cX10_nextMost 47 = .ok (.ireturn, 1) := by decide +kernel
theorem dX10_topSet_0 : decode cX10_topSet 0 = .ok (.aload_n 0, 1) := by decide +kernel
theorem dX10_topSet_1 : decode cX10_topSet 1 = .ok (.invokevirtual 301, 3) := by decide +kernel
theorem dX10_topSet_4 : decode cX10_topSet 4 = .ok (.istore_n 1, 1) := by decide +kernel
theorem dX10_topSet_5 : decode cX10_topSet 5 = .ok (.iconst 0, 1) := by decide +kernel
theorem dX10_topSet_6 : decode cX10_topSet 6 = .ok (.istore_n 2, 1) := by decide +kernel
theorem dX10_topSet_7 : decode cX10_topSet 7 = .ok (.iconst 0, 1) := by decide +kernel
theorem dX10_topSet_8 : decode cX10_topSet 8 = .ok (.istore_n 3, 1) := by decide +kernel
theorem dX10_topSet_9 : decode cX10_topSet 9 = .ok (.iload_n 3, 1) := by decide +kernel
theorem dX10_topSet_10 : decode cX10_topSet 10 = .ok (.aload_n 0, 1) := by decide +kernel
theorem dX10_topSet_11 : decode cX10_topSet 11 = .ok (.invokevirtual 295, 3) := by decide +kernel
theorem dX10_topSet_14 : decode cX10_topSet 14 = .ok (.if_icmp .ge 28, 3) := by decide +kernel
theorem dX10_topSet_17 : decode cX10_topSet 17 = .ok (.iload_n 2, 1) := by decide +kernel
theorem dX10_topSet_18 : decode cX10_topSet 18 = .ok (.aload_n 0, 1) := by decide +kernel
theorem dX10_topSet_19 : decode cX10_topSet 19 = .ok (.iload_n 3, 1) := by decide +kernel
theorem dX10_topSet_20 : decode cX10_topSet 20 = .ok (.invokevirtual 279, 3) := by decide +kernel
theorem dX10_topSet_23 : decode cX10_topSet 23 = .ok (.iload_n 1, 1) := by decide +kernel
theorem dX10_topSet_24 : decode cX10_topSet 24 = .ok (.if_icmp .ne 9, 3) := by decide +kernel
theorem dX10_topSet_27 : decode cX10_topSet 27 = .ok (.iconst 1, 1) := by decide +kernel
theorem dX10_topSet_28 : decode cX10_topSet 28 = .ok (.iload_n 3, 1) := by decide +kernel
theorem dX10_topSet_29 : decode cX10_topSet 29 = .ok (.ishl, 1) := by decide +kernel
theorem dX10_topSet_30 : decode cX10_topSet 30 = .ok (.goto 4, 3) := by decide +kernel
theorem dX10_topSet_33 : decode cX10_topSet 33 = .ok (.iconst 0, 1) := by decide +kernel
theorem dX10_topSet_34 : decode cX10_topSet 34 = .ok (.ior, 1) := by decide +kernel
theorem dX10_topSet_35 : decode cX10_topSet 35 = .ok (.istore_n 2, 1) := by decide +kernel
theorem dX10_topSet_36 : decode cX10_topSet 36 = .ok (.iinc 3 1, 3) := by decide +kernel
theorem dX10_topSet_39 : decode cX10_topSet 39 = .ok (.goto (-30), 3) := by decide +kernel
theorem dX10_topSet_42 : decode cX10_topSet 42 = .ok (.iload_n 2, 1) := by decide +kernel
theorem dX10_topSet_43 : decode cX10_topSet 43 = .ok (.ireturn, 1) := by decide +kernel
theorem dX10_ones_0 : decode cX10_ones 0 = .ok (.iconst 0, 1) := by decide +kernel
theorem dX10_ones_1 : decode cX10_ones 1 = .ok (.istore_n 1, 1) := by decide +kernel
theorem dX10_ones_2 : decode cX10_ones 2 = .ok (.iconst 0, 1) := by decide +kernel
theorem dX10_ones_3 : decode cX10_ones 3 = .ok (.istore_n 2, 1) := by decide +kernel
theorem dX10_ones_4 : decode cX10_ones 4 = .ok (.iload_n 2, 1) := by decide +kernel
theorem dX10_ones_5 : decode cX10_ones 5 = .ok (.bipush 8, 2) := by decide +kernel
theorem dX10_ones_7 : decode cX10_ones 7 = .ok (.if_icmp .ge 17, 3) := by decide +kernel
theorem dX10_ones_10 : decode cX10_ones 10 = .ok (.iload_n 1, 1) := by decide +kernel
theorem dX10_ones_11 : decode cX10_ones 11 = .ok (.iload_n 0, 1) := by decide +kernel
theorem dX10_ones_12 : decode cX10_ones 12 = .ok (.iload_n 2, 1) := by decide +kernel
theorem dX10_ones_13 : decode cX10_ones 13 = .ok (.ishr, 1) := by decide +kernel
theorem dX10_ones_14 : decode cX10_ones 14 = .ok (.iconst 1, 1) := by decide +kernel
theorem dX10_ones_15 : decode cX10_ones 15 = .ok (.iand, 1) := by decide +kernel
theorem dX10_ones_16 : decode cX10_ones 16 = .ok (.iadd, 1) := by decide +kernel
theorem dX10_ones_17 : decode cX10_ones 17 = .ok (.istore_n 1, 1) := by decide +kernel
theorem dX10_ones_18 : decode cX10_ones 18 = .ok (.iinc 2 1, 3) := by decide +kernel
theorem dX10_ones_21 : decode cX10_ones 21 = .ok (.goto (-17), 3) := by decide +kernel
theorem dX10_ones_24 : decode cX10_ones 24 = .ok (.iload_n 1, 1) := by decide +kernel
theorem dX10_ones_25 : decode cX10_ones 25 = .ok (.ireturn, 1) := by decide +kernel
theorem dX10_lossEach_0 : decode cX10_lossEach 0 = .ok (.aload_n 0, 1) := by decide +kernel
theorem dX10_lossEach_1 : decode cX10_lossEach 1 = .ok (.getfield 13, 3) := by decide +kernel
theorem dX10_lossEach_4 : decode cX10_lossEach 4 = .ok (.bipush 13, 2) := by decide +kernel
theorem dX10_lossEach_6 : decode cX10_lossEach 6 = .ok (.iaload, 1) := by decide +kernel
theorem dX10_lossEach_7 : decode cX10_lossEach 7 = .ok (.iconst 1, 1) := by decide +kernel
theorem dX10_lossEach_8 : decode cX10_lossEach 8 = .ok (.if_icmp .eq 19, 3) := by decide +kernel
theorem dX10_lossEach_11 : decode cX10_lossEach 11 = .ok (.aload_n 0, 1) := by decide +kernel
theorem dX10_lossEach_12 : decode cX10_lossEach 12 = .ok (.invokevirtual 304, 3) := by decide +kernel
theorem dX10_lossEach_15 : decode cX10_lossEach 15 = .ok (.invokestatic 307, 3) := by decide +kernel
theorem dX10_lossEach_18 : decode cX10_lossEach 18 = .ok (.aload_n 0, 1) := by decide +kernel
theorem dX10_lossEach_19 : decode cX10_lossEach 19 = .ok (.getfield 13, 3) := by decide +kernel
theorem dX10_lossEach_22 : decode cX10_lossEach 22 = .ok (.iconst 3, 1) := by decide +kernel
theorem dX10_lossEach_23 : decode cX10_lossEach 23 = .ok (.iaload, 1) := by decide +kernel
theorem dX10_lossEach_24 : decode cX10_lossEach 24 = .ok (.if_icmp .lt 7, 3) := by decide +kernel
theorem dX10_lossEach_27 : decode cX10_lossEach 27 = .ok (.iconst 0, 1) := by decide +kernel
theorem dX10_lossEach_28 : decode cX10_lossEach 28 = .ok (.goto 23, 3) := by decide +kernel
theorem dX10_lossEach_31 : decode cX10_lossEach 31 = .ok (.iconst 0, 1) := by decide +kernel
theorem dX10_lossEach_32 : decode cX10_lossEach 32 = .ok (.aload_n 0, 1) := by decide +kernel
theorem dX10_lossEach_33 : decode cX10_lossEach 33 = .ok (.invokevirtual 301, 3) := by decide +kernel
theorem dX10_lossEach_36 : decode cX10_lossEach 36 = .ok (.aload_n 0, 1) := by decide +kernel
theorem dX10_lossEach_37 : decode cX10_lossEach 37 = .ok (.invokevirtual 310, 3) := by decide +kernel
theorem dX10_lossEach_40 : decode cX10_lossEach 40 = .ok (.isub, 1) := by decide +kernel
theorem dX10_lossEach_41 : decode cX10_lossEach 41 = .ok (.aload_n 0, 1) := by decide +kernel
theorem dX10_lossEach_42 : decode cX10_lossEach 42 = .ok (.getfield 13, 3) := by decide +kernel
theorem dX10_lossEach_45 : decode cX10_lossEach 45 = .ok (.iconst 2, 1) := by decide +kernel
theorem dX10_lossEach_46 : decode cX10_lossEach 46 = .ok (.iaload, 1) := by decide +kernel
theorem dX10_lossEach_47 : decode cX10_lossEach 47 = .ok (.isub, 1) := by decide +kernel
theorem dX10_lossEach_48 : decode cX10_lossEach 48 = .ok (.invokestatic 298, 3) := by decide +kernel
theorem dX10_lossEach_51 : decode cX10_lossEach 51 = .ok (.ireturn, 1) := by decide +kernel
theorem dX10_lossOf_0 : decode cX10_lossOf 0 = .ok (.aload_n 0, 1) := by decide +kernel
theorem dX10_lossOf_1 : decode cX10_lossOf 1 = .ok (.invokevirtual 304, 3) := by decide +kernel
theorem dX10_lossOf_4 : decode cX10_lossOf 4 = .ok (.iload_n 1, 1) := by decide +kernel
theorem dX10_lossOf_5 : decode cX10_lossOf 5 = .ok (.ishr, 1) := by decide +kernel
theorem dX10_lossOf_6 : decode cX10_lossOf 6 = .ok (.iconst 1, 1) := by decide +kernel
theorem dX10_lossOf_7 : decode cX10_lossOf 7 = .ok (.iand, 1) := by decide +kernel
theorem dX10_lossOf_8 : decode cX10_lossOf 8 = .ok (.iconst 1, 1) := by decide +kernel
theorem dX10_lossOf_9 : decode cX10_lossOf 9 = .ok (.if_icmp .ne 10, 3) := by decide +kernel
theorem dX10_lossOf_12 : decode cX10_lossOf 12 = .ok (.aload_n 0, 1) := by decide +kernel
theorem dX10_lossOf_13 : decode cX10_lossOf 13 = .ok (.invokevirtual 313, 3) := by decide +kernel
theorem dX10_lossOf_16 : decode cX10_lossOf 16 = .ok (.goto 4, 3) := by decide +kernel
theorem dX10_lossOf_19 : decode cX10_lossOf 19 = .ok (.iconst 0, 1) := by decide +kernel
theorem dX10_lossOf_20 : decode cX10_lossOf 20 = .ok (.ireturn, 1) := by decide +kernel
theorem dX10_tops_0 : decode cX10_tops 0 = .ok (.aload_n 0, 1) := by decide +kernel
theorem dX10_tops_1 : decode cX10_tops 1 = .ok (.invokevirtual 295, 3) := by decide +kernel
theorem dX10_tops_4 : decode cX10_tops 4 = .ok (.ifCond .le 10, 3) := by decide +kernel
theorem dX10_tops_7 : decode cX10_tops 7 = .ok (.aload_n 0, 1) := by decide +kernel
theorem dX10_tops_8 : decode cX10_tops 8 = .ok (.invokevirtual 304, 3) := by decide +kernel
theorem dX10_tops_11 : decode cX10_tops 11 = .ok (.goto 5, 3) := by decide +kernel
theorem dX10_tops_14 : decode cX10_tops 14 = .ok (.bipush (-2), 2) := by decide +kernel
theorem dX10_tops_16 : decode cX10_tops 16 = .ok (.ireturn, 1) := by decide +kernel
theorem dX10_next_0 : decode cX10_next 0 = .ok (.aload_n 0, 1) := by decide +kernel
theorem dX10_next_1 : decode cX10_next 1 = .ok (.invokevirtual 295, 3) := by decide +kernel
theorem dX10_next_4 : decode cX10_next 4 = .ok (.ifCond .le 10, 3) := by decide +kernel
theorem dX10_next_7 : decode cX10_next 7 = .ok (.aload_n 0, 1) := by decide +kernel
theorem dX10_next_8 : decode cX10_next 8 = .ok (.invokevirtual 310, 3) := by decide +kernel
theorem dX10_next_11 : decode cX10_next 11 = .ok (.goto 5, 3) := by decide +kernel
theorem dX10_next_14 : decode cX10_next 14 = .ok (.bipush (-2), 2) := by decide +kernel
theorem dX10_next_16 : decode cX10_next 16 = .ok (.ireturn, 1) := by decide +kernel
theorem dX10_loses_0 : decode cX10_loses 0 = .ok (.aload_n 0, 1) := by decide +kernel
theorem dX10_loses_1 : decode cX10_loses 1 = .ok (.iload_n 1, 1) := by decide +kernel
theorem dX10_loses_2 : decode cX10_loses 2 = .ok (.invokevirtual 106, 3) := by decide +kernel
theorem dX10_loses_5 : decode cX10_loses 5 = .ok (.ifCond .eq 11, 3) := by decide +kernel
theorem dX10_loses_8 : decode cX10_loses 8 = .ok (.aload_n 0, 1) := by decide +kernel
theorem dX10_loses_9 : decode cX10_loses 9 = .ok (.iload_n 1, 1) := by decide +kernel
theorem dX10_loses_10 : decode cX10_loses 10 = .ok (.invokevirtual 316, 3) := by decide +kernel
theorem dX10_loses_13 : decode cX10_loses 13 = .ok (.goto 5, 3) := by decide +kernel
theorem dX10_loses_16 : decode cX10_loses 16 = .ok (.bipush (-2), 2) := by decide +kernel
theorem dX10_loses_18 : decode cX10_loses 18 = .ok (.ireturn, 1) := by decide +kernel
theorem dX10_losing_0 : decode cX10_losing 0 = .ok (.aload_n 0, 1) := by decide +kernel
theorem dX10_losing_1 : decode cX10_losing 1 = .ok (.invokevirtual 313, 3) := by decide +kernel
theorem dX10_losing_4 : decode cX10_losing 4 = .ok (.istore_n 1, 1) := by decide +kernel
theorem dX10_losing_5 : decode cX10_losing 5 = .ok (.aload_n 0, 1) := by decide +kernel
theorem dX10_losing_6 : decode cX10_losing 6 = .ok (.invokevirtual 304, 3) := by decide +kernel
theorem dX10_losing_9 : decode cX10_losing 9 = .ok (.istore_n 2, 1) := by decide +kernel
theorem dX10_losing_10 : decode cX10_losing 10 = .ok (.iload_n 1, 1) := by decide +kernel
theorem dX10_losing_11 : decode cX10_losing 11 = .ok (.ifCond .ne 5, 3) := by decide +kernel
theorem dX10_losing_14 : decode cX10_losing 14 = .ok (.iconst 0, 1) := by decide +kernel
theorem dX10_losing_15 : decode cX10_losing 15 = .ok (.ireturn, 1) := by decide +kernel
theorem dX10_losing_16 : decode cX10_losing 16 = .ok (.iload_n 1, 1) := by decide +kernel
theorem dX10_losing_17 : decode cX10_losing 17 = .ok (.iload_n 2, 1) := by decide +kernel
theorem dX10_losing_18 : decode cX10_losing 18 = .ok (.invokestatic 307, 3) := by decide +kernel
theorem dX10_losing_21 : decode cX10_losing 21 = .ok (.imul, 1) := by decide +kernel
theorem dX10_losing_22 : decode cX10_losing 22 = .ok (.istore_n 3, 1) := by decide +kernel
theorem dX10_losing_23 : decode cX10_losing 23 = .ok (.iconst 0, 1) := by decide +kernel
theorem dX10_losing_24 : decode cX10_losing 24 = .ok (.istore 4, 2) := by decide +kernel
theorem dX10_losing_26 : decode cX10_losing 26 = .ok (.iload 4, 2) := by decide +kernel
theorem dX10_losing_28 : decode cX10_losing 28 = .ok (.aload_n 0, 1) := by decide +kernel
theorem dX10_losing_29 : decode cX10_losing 29 = .ok (.invokevirtual 295, 3) := by decide +kernel
theorem dX10_losing_32 : decode cX10_losing 32 = .ok (.if_icmp .ge 47, 3) := by decide +kernel
theorem dX10_losing_35 : decode cX10_losing 35 = .ok (.iload_n 2, 1) := by decide +kernel
theorem dX10_losing_36 : decode cX10_losing 36 = .ok (.iload 4, 2) := by decide +kernel
theorem dX10_losing_38 : decode cX10_losing 38 = .ok (.ishr, 1) := by decide +kernel
theorem dX10_losing_39 : decode cX10_losing 39 = .ok (.iconst 1, 1) := by decide +kernel
theorem dX10_losing_40 : decode cX10_losing 40 = .ok (.iand, 1) := by decide +kernel
theorem dX10_losing_41 : decode cX10_losing 41 = .ok (.ifCond .ne 6, 3) := by decide +kernel
theorem dX10_losing_44 : decode cX10_losing 44 = .ok (.goto 29, 3) := by decide +kernel
theorem dX10_losing_47 : decode cX10_losing 47 = .ok (.aload_n 0, 1) := by decide +kernel
theorem dX10_losing_48 : decode cX10_losing 48 = .ok (.iload 4, 2) := by decide +kernel
theorem dX10_losing_50 : decode cX10_losing 50 = .ok (.aload_n 0, 1) := by decide +kernel
theorem dX10_losing_51 : decode cX10_losing 51 = .ok (.iload 4, 2) := by decide +kernel
theorem dX10_losing_53 : decode cX10_losing 53 = .ok (.iconst 0, 1) := by decide +kernel
theorem dX10_losing_54 : decode cX10_losing 54 = .ok (.invokevirtual 276, 3) := by decide +kernel
theorem dX10_losing_57 : decode cX10_losing 57 = .ok (.iload_n 1, 1) := by decide +kernel
theorem dX10_losing_58 : decode cX10_losing 58 = .ok (.isub, 1) := by decide +kernel
theorem dX10_losing_59 : decode cX10_losing 59 = .ok (.invokevirtual 284, 3) := by decide +kernel
theorem dX10_losing_62 : decode cX10_losing 62 = .ok (.aload_n 0, 1) := by decide +kernel
theorem dX10_losing_63 : decode cX10_losing 63 = .ok (.getfield 68, 3) := by decide +kernel
theorem dX10_losing_66 : decode cX10_losing 66 = .ok (.iload 4, 2) := by decide +kernel
theorem dX10_losing_68 : decode cX10_losing 68 = .ok (.dup2, 1) := by decide +kernel
theorem dX10_losing_69 : decode cX10_losing 69 = .ok (.iaload, 1) := by decide +kernel
theorem dX10_losing_70 : decode cX10_losing 70 = .ok (.iload_n 1, 1) := by decide +kernel
theorem dX10_losing_71 : decode cX10_losing 71 = .ok (.iadd, 1) := by decide +kernel
theorem dX10_losing_72 : decode cX10_losing 72 = .ok (.iastore, 1) := by decide +kernel
theorem dX10_losing_73 : decode cX10_losing 73 = .ok (.iinc 4 1, 3) := by decide +kernel
theorem dX10_losing_76 : decode cX10_losing 76 = .ok (.goto (-50), 3) := by decide +kernel
theorem dX10_losing_79 : decode cX10_losing 79 = .ok (.aload_n 0, 1) := by decide +kernel
theorem dX10_losing_80 : decode cX10_losing 80 = .ok (.invokevirtual 295, 3) := by decide +kernel
theorem dX10_losing_83 : decode cX10_losing 83 = .ok (.iload_n 2, 1) := by decide +kernel
theorem dX10_losing_84 : decode cX10_losing 84 = .ok (.invokestatic 307, 3) := by decide +kernel
theorem dX10_losing_87 : decode cX10_losing 87 = .ok (.isub, 1) := by decide +kernel
theorem dX10_losing_88 : decode cX10_losing 88 = .ok (.istore 4, 2) := by decide +kernel
theorem dX10_losing_90 : decode cX10_losing 90 = .ok (.aload_n 0, 1) := by decide +kernel
theorem dX10_losing_91 : decode cX10_losing 91 = .ok (.getfield 13, 3) := by decide +kernel
theorem dX10_losing_94 : decode cX10_losing 94 = .ok (.iconst 4, 1) := by decide +kernel
theorem dX10_losing_95 : decode cX10_losing 95 = .ok (.iaload, 1) := by decide +kernel
theorem dX10_losing_96 : decode cX10_losing 96 = .ok (.iconst 1, 1) := by decide +kernel
theorem dX10_losing_97 : decode cX10_losing 97 = .ok (.if_icmp .ne 15, 3) := by decide +kernel
theorem dX10_losing_100 : decode cX10_losing 100 = .ok (.iload 4, 2) := by decide +kernel
theorem dX10_losing_102 : decode cX10_losing 102 = .ok (.ifCond .le 10, 3) := by decide +kernel
theorem dX10_losing_105 : decode cX10_losing 105 = .ok (.iload_n 3, 1) := by decide +kernel
theorem dX10_losing_106 : decode cX10_losing 106 = .ok (.iload 4, 2) := by decide +kernel
theorem dX10_losing_108 : decode cX10_losing 108 = .ok (.idiv, 1) := by decide +kernel
theorem dX10_losing_109 : decode cX10_losing 109 = .ok (.goto 4, 3) := by decide +kernel
theorem dX10_losing_112 : decode cX10_losing 112 = .ok (.iconst 0, 1) := by decide +kernel
theorem dX10_losing_113 : decode cX10_losing 113 = .ok (.istore 5, 2) := by decide +kernel
theorem dX10_losing_115 : decode cX10_losing 115 = .ok (.iconst 0, 1) := by decide +kernel
theorem dX10_losing_116 : decode cX10_losing 116 = .ok (.istore 6, 2) := by decide +kernel
theorem dX10_losing_118 : decode cX10_losing 118 = .ok (.iload 6, 2) := by decide +kernel
theorem dX10_losing_120 : decode cX10_losing 120 = .ok (.aload_n 0, 1) := by decide +kernel
theorem dX10_losing_121 : decode cX10_losing 121 = .ok (.invokevirtual 295, 3) := by decide +kernel
theorem dX10_losing_124 : decode cX10_losing 124 = .ok (.if_icmp .ge 34, 3) := by decide +kernel
theorem dX10_losing_127 : decode cX10_losing 127 = .ok (.iload_n 2, 1) := by decide +kernel
theorem dX10_losing_128 : decode cX10_losing 128 = .ok (.iload 6, 2) := by decide +kernel
theorem dX10_losing_130 : decode cX10_losing 130 = .ok (.ishr, 1) := by decide +kernel
theorem dX10_losing_131 : decode cX10_losing 131 = .ok (.iconst 1, 1) := by decide +kernel
theorem dX10_losing_132 : decode cX10_losing 132 = .ok (.iand, 1) := by decide +kernel
theorem dX10_losing_133 : decode cX10_losing 133 = .ok (.ifCond .ne 19, 3) := by decide +kernel
theorem dX10_losing_136 : decode cX10_losing 136 = .ok (.aload_n 0, 1) := by decide +kernel
theorem dX10_losing_137 : decode cX10_losing 137 = .ok (.iload 6, 2) := by decide +kernel
theorem dX10_losing_139 : decode cX10_losing 139 = .ok (.aload_n 0, 1) := by decide +kernel
theorem dX10_losing_140 : decode cX10_losing 140 = .ok (.iload 6, 2) := by decide +kernel
theorem dX10_losing_142 : decode cX10_losing 142 = .ok (.iconst 0, 1) := by decide +kernel
theorem dX10_losing_143 : decode cX10_losing 143 = .ok (.invokevirtual 276, 3) := by decide +kernel
theorem dX10_losing_146 : decode cX10_losing 146 = .ok (.iload 5, 2) := by decide +kernel
theorem dX10_losing_148 : decode cX10_losing 148 = .ok (.iadd, 1) := by decide +kernel
theorem dX10_losing_149 : decode cX10_losing 149 = .ok (.invokevirtual 284, 3) := by decide +kernel
theorem dX10_losing_152 : decode cX10_losing 152 = .ok (.iinc 6 1, 3) := by decide +kernel
theorem dX10_losing_155 : decode cX10_losing 155 = .ok (.goto (-37), 3) := by decide +kernel
theorem dX10_losing_158 : decode cX10_losing 158 = .ok (.aload_n 0, 1) := by decide +kernel
theorem dX10_losing_159 : decode cX10_losing 159 = .ok (.getfield 13, 3) := by decide +kernel
theorem dX10_losing_162 : decode cX10_losing 162 = .ok (.iconst 4, 1) := by decide +kernel
theorem dX10_losing_163 : decode cX10_losing 163 = .ok (.iaload, 1) := by decide +kernel
theorem dX10_losing_164 : decode cX10_losing 164 = .ok (.iconst 2, 1) := by decide +kernel
