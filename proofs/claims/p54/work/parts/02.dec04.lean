theorem dX7_strikeOn_20 : decode cX7_strikeOn 20 = .ok (.if_icmp .ge 28, 3) := by decide +kernel
theorem dX7_strikeOn_23 : decode cX7_strikeOn 23 = .ok (.aload_n 0, 1) := by decide +kernel
theorem dX7_strikeOn_24 : decode cX7_strikeOn 24 = .ok (.getfield 27, 3) := by decide +kernel
theorem dX7_strikeOn_27 : decode cX7_strikeOn 27 = .ok (.iload_n 2, 1) := by decide +kernel
theorem dX7_strikeOn_28 : decode cX7_strikeOn 28 = .ok (.aaload, 1) := by decide +kernel
theorem dX7_strikeOn_29 : decode cX7_strikeOn 29 = .ok (.aload_n 1, 1) := by decide +kernel
theorem dX7_strikeOn_30 : decode cX7_strikeOn 30 = .ok (.getfield 137, 3) := by decide +kernel
theorem dX7_strikeOn_33 : decode cX7_strikeOn 33 = .ok (.iload_n 2, 1) := by decide +kernel
theorem dX7_strikeOn_34 : decode cX7_strikeOn 34 = .ok (.iaload, 1) := by decide +kernel
theorem dX7_strikeOn_35 : decode cX7_strikeOn 35 = .ok (.aload_n 0, 1) := by decide +kernel
theorem dX7_strikeOn_36 : decode cX7_strikeOn 36 = .ok (.getfield 39, 3) := by decide +kernel
theorem dX7_strikeOn_39 : decode cX7_strikeOn 39 = .ok (.invokevirtual 91, 3) := by decide +kernel
theorem dX7_strikeOn_42 : decode cX7_strikeOn 42 = .ok (.iinc 2 1, 3) := by decide +kernel
theorem dX7_strikeOn_45 : decode cX7_strikeOn 45 = .ok (.goto (-30), 3) := by decide +kernel
theorem dX7_strikeOn_48 : decode cX7_strikeOn 48 = .ok (.aload_n 0, 1) := by decide +kernel
theorem dX7_strikeOn_49 : decode cX7_strikeOn 49 = .ok (.aload_n 1, 1) := by decide +kernel
theorem dX7_strikeOn_50 : decode cX7_strikeOn 50 = .ok (.getfield 139, 3) := by decide +kernel
theorem dX7_strikeOn_53 : decode cX7_strikeOn 53 = .ok (.putfield 49, 3) := by decide +kernel
theorem dX7_strikeOn_56 : decode cX7_strikeOn 56 = .ok (.aload_n 0, 1) := by decide +kernel
theorem dX7_strikeOn_57 : decode cX7_strikeOn 57 = .ok (.invokevirtual 140, 3) := by decide +kernel
theorem dX7_strikeOn_60 : decode cX7_strikeOn 60 = .ok (.aload_n 0, 1) := by decide +kernel
theorem dX7_strikeOn_61 : decode cX7_strikeOn 61 = .ok (.invokevirtual 143, 3) := by decide +kernel
theorem dX7_strikeOn_64 : decode cX7_strikeOn 64 = .ok (.return_, 1) := by decide +kernel
theorem dX7_findHidden_0 : decode cX7_findHidden 0 = .ok (.iconst 0, 1) := by decide +kernel
theorem dX7_findHidden_1 : decode cX7_findHidden 1 = .ok (.istore_n 1, 1) := by decide +kernel
theorem dX7_findHidden_2 : decode cX7_findHidden 2 = .ok (.iload_n 1, 1) := by decide +kernel
theorem dX7_findHidden_3 : decode cX7_findHidden 3 = .ok (.aload_n 0, 1) := by decide +kernel
theorem dX7_findHidden_4 : decode cX7_findHidden 4 = .ok (.getfield 43, 3) := by decide +kernel
theorem dX7_findHidden_7 : decode cX7_findHidden 7 = .ok (.if_icmp .ge 75, 3) := by decide +kernel
theorem dX7_findHidden_10 : decode cX7_findHidden 10 = .ok (.aload_n 0, 1) := by decide +kernel
theorem dX7_findHidden_11 : decode cX7_findHidden 11 = .ok (.getfield 27, 3) := by decide +kernel
theorem dX7_findHidden_14 : decode cX7_findHidden 14 = .ok (.iload_n 1, 1) := by decide +kernel
theorem dX7_findHidden_15 : decode cX7_findHidden 15 = .ok (.aaload, 1) := by decide +kernel
theorem dX7_findHidden_16 : decode cX7_findHidden 16 = .ok (.astore_n 2, 1) := by decide +kernel
theorem dX7_findHidden_17 : decode cX7_findHidden 17 = .ok (.aload_n 2, 1) := by decide +kernel
theorem dX7_findHidden_18 : decode cX7_findHidden 18 = .ok (.getfield 79, 3) := by decide +kernel
theorem dX7_findHidden_21 : decode cX7_findHidden 21 = .ok (.ifCond .le 55, 3) := by decide +kernel
theorem dX7_findHidden_24 : decode cX7_findHidden 24 = .ok (.aload_n 0, 1) := by decide +kernel
theorem dX7_findHidden_25 : decode cX7_findHidden 25 = .ok (.getfield 12, 3) := by decide +kernel
theorem dX7_findHidden_28 : decode cX7_findHidden 28 = .ok (.getfield 146, 3) := by decide +kernel
theorem dX7_findHidden_31 : decode cX7_findHidden 31 = .ok (.ifCond .le 45, 3) := by decide +kernel
theorem dX7_findHidden_34 : decode cX7_findHidden 34 = .ok (.aload_n 0, 1) := by decide +kernel
theorem dX7_findHidden_35 : decode cX7_findHidden 35 = .ok (.invokevirtual 149, 3) := by decide +kernel
theorem dX7_findHidden_38 : decode cX7_findHidden 38 = .ok (.aload_n 0, 1) := by decide +kernel
theorem dX7_findHidden_39 : decode cX7_findHidden 39 = .ok (.getfield 12, 3) := by decide +kernel
theorem dX7_findHidden_42 : decode cX7_findHidden 42 = .ok (.getfield 146, 3) := by decide +kernel
theorem dX7_findHidden_45 : decode cX7_findHidden 45 = .ok (.if_icmp .ge 31, 3) := by decide +kernel
theorem dX7_findHidden_48 : decode cX7_findHidden 48 = .ok (.aload_n 0, 1) := by decide +kernel
theorem dX7_findHidden_49 : decode cX7_findHidden 49 = .ok (.dup, 1) := by decide +kernel
theorem dX7_findHidden_50 : decode cX7_findHidden 50 = .ok (.getfield 49, 3) := by decide +kernel
theorem dX7_findHidden_53 : decode cX7_findHidden 53 = .ok (.aload_n 2, 1) := by decide +kernel
theorem dX7_findHidden_54 : decode cX7_findHidden 54 = .ok (.getfield 79, 3) := by decide +kernel
theorem dX7_findHidden_57 : decode cX7_findHidden 57 = .ok (.iadd, 1) := by decide +kernel
theorem dX7_findHidden_58 : decode cX7_findHidden 58 = .ok (.putfield 49, 3) := by decide +kernel
theorem dX7_findHidden_61 : decode cX7_findHidden 61 = .ok (.aload_n 0, 1) := by decide +kernel
theorem dX7_findHidden_62 : decode cX7_findHidden 62 = .ok (.iload_n 1, 1) := by decide +kernel
theorem dX7_findHidden_63 : decode cX7_findHidden 63 = .ok (.aload_n 2, 1) := by decide +kernel
theorem dX7_findHidden_64 : decode cX7_findHidden 64 = .ok (.getfield 79, 3) := by decide +kernel
theorem dX7_findHidden_67 : decode cX7_findHidden 67 = .ok (.ineg, 1) := by decide +kernel
theorem dX7_findHidden_68 : decode cX7_findHidden 68 = .ok (.invokevirtual 107, 3) := by decide +kernel
theorem dX7_findHidden_71 : decode cX7_findHidden 71 = .ok (.aload_n 2, 1) := by decide +kernel
theorem dX7_findHidden_72 : decode cX7_findHidden 72 = .ok (.iconst 0, 1) := by decide +kernel
theorem dX7_findHidden_73 : decode cX7_findHidden 73 = .ok (.putfield 79, 3) := by decide +kernel
theorem dX7_findHidden_76 : decode cX7_findHidden 76 = .ok (.iinc 1 1, 3) := by decide +kernel
theorem dX7_findHidden_79 : decode cX7_findHidden 79 = .ok (.goto (-77), 3) := by decide +kernel
theorem dX7_findHidden_82 : decode cX7_findHidden 82 = .ok (.return_, 1) := by decide +kernel
theorem dX7_draw_0 : decode cX7_draw 0 = .ok (.aload_n 0, 1) := by decide +kernel
theorem dX7_draw_1 : decode cX7_draw 1 = .ok (.ldc2_w 152, 3) := by decide +kernel
theorem dX7_draw_4 : decode cX7_draw 4 = .ok (.aload_n 0, 1) := by decide +kernel
theorem dX7_draw_5 : decode cX7_draw 5 = .ok (.getfield 55, 3) := by decide +kernel
theorem dX7_draw_8 : decode cX7_draw 8 = .ok (.lmul, 1) := by decide +kernel
theorem dX7_draw_9 : decode cX7_draw 9 = .ok (.ldc2_w 154, 3) := by decide +kernel
theorem dX7_draw_12 : decode cX7_draw 12 = .ok (.ladd, 1) := by decide +kernel
theorem dX7_draw_13 : decode cX7_draw 13 = .ok (.ldc2_w 156, 3) := by decide +kernel
theorem dX7_draw_16 : decode cX7_draw 16 = .ok (.lrem, 1) := by decide +kernel
theorem dX7_draw_17 : decode cX7_draw 17 = .ok (.putfield 55, 3) := by decide +kernel
theorem dX7_draw_20 : decode cX7_draw 20 = .ok (.aload_n 0, 1) := by decide +kernel
theorem dX7_draw_21 : decode cX7_draw 21 = .ok (.getfield 55, 3) := by decide +kernel
theorem dX7_draw_24 : decode cX7_draw 24 = .ok (.ldc2_w 158, 3) := by decide +kernel
theorem dX7_draw_27 : decode cX7_draw 27 = .ok (.ldiv, 1) := by decide +kernel
theorem dX7_draw_28 : decode cX7_draw 28 = .ok (.ldc2_w 160, 3) := by decide +kernel
theorem dX7_draw_31 : decode cX7_draw 31 = .ok (.lrem, 1) := by decide +kernel
theorem dX7_draw_32 : decode cX7_draw 32 = .ok (.l2i, 1) := by decide +kernel
theorem dX7_draw_33 : decode cX7_draw 33 = .ok (.ireturn, 1) := by decide +kernel
theorem dX7_settleLoans_0 : decode cX7_settleLoans 0 = .ok (.iconst 0, 1) := by decide +kernel
theorem dX7_settleLoans_1 : decode cX7_settleLoans 1 = .ok (.istore_n 1, 1) := by decide +kernel
theorem dX7_settleLoans_2 : decode cX7_settleLoans 2 = .ok (.iload_n 1, 1) := by decide +kernel
theorem dX7_settleLoans_3 : decode cX7_settleLoans 3 = .ok (.aload_n 0, 1) := by decide +kernel
theorem dX7_settleLoans_4 : decode cX7_settleLoans 4 = .ok (.getfield 21, 3) := by decide +kernel
theorem dX7_settleLoans_7 : decode cX7_settleLoans 7 = .ok (.getfield 60, 3) := by decide +kernel
theorem dX7_settleLoans_10 : decode cX7_settleLoans 10 = .ok (.if_icmp .ge 56, 3) := by decide +kernel
theorem dX7_settleLoans_13 : decode cX7_settleLoans 13 = .ok (.aload_n 0, 1) := by decide +kernel
theorem dX7_settleLoans_14 : decode cX7_settleLoans 14 = .ok (.getfield 21, 3) := by decide +kernel
theorem dX7_settleLoans_17 : decode cX7_settleLoans 17 = .ok (.getfield 162, 3) := by decide +kernel
theorem dX7_settleLoans_20 : decode cX7_settleLoans 20 = .ok (.iload_n 1, 1) := by decide +kernel
theorem dX7_settleLoans_21 : decode cX7_settleLoans 21 = .ok (.iaload, 1) := by decide +kernel
theorem dX7_settleLoans_22 : decode cX7_settleLoans 22 = .ok (.istore_n 2, 1) := by decide +kernel
theorem dX7_settleLoans_23 : decode cX7_settleLoans 23 = .ok (.aload_n 0, 1) := by decide +kernel
theorem dX7_settleLoans_24 : decode cX7_settleLoans 24 = .ok (.getfield 21, 3) := by decide +kernel
theorem dX7_settleLoans_27 : decode cX7_settleLoans 27 = .ok (.getfield 165, 3) := by decide +kernel
theorem dX7_settleLoans_30 : decode cX7_settleLoans 30 = .ok (.iload_n 1, 1) := by decide +kernel
theorem dX7_settleLoans_31 : decode cX7_settleLoans 31 = .ok (.iaload, 1) := by decide +kernel
theorem dX7_settleLoans_32 : decode cX7_settleLoans 32 = .ok (.aload_n 0, 1) := by decide +kernel
theorem dX7_settleLoans_33 : decode cX7_settleLoans 33 = .ok (.getfield 27, 3) := by decide +kernel
theorem dX7_settleLoans_36 : decode cX7_settleLoans 36 = .ok (.iload_n 2, 1) := by decide +kernel
theorem dX7_settleLoans_37 : decode cX7_settleLoans 37 = .ok (.aaload, 1) := by decide +kernel
theorem dX7_settleLoans_38 : decode cX7_settleLoans 38 = .ok (.getfield 88, 3) := by decide +kernel
theorem dX7_settleLoans_41 : decode cX7_settleLoans 41 = .ok (.invokestatic 98, 3) := by decide +kernel
theorem dX7_settleLoans_44 : decode cX7_settleLoans 44 = .ok (.istore_n 3, 1) := by decide +kernel
theorem dX7_settleLoans_45 : decode cX7_settleLoans 45 = .ok (.aload_n 0, 1) := by decide +kernel
theorem dX7_settleLoans_46 : decode cX7_settleLoans 46 = .ok (.iload_n 2, 1) := by decide +kernel
theorem dX7_settleLoans_47 : decode cX7_settleLoans 47 = .ok (.aload_n 0, 1) := by decide +kernel
theorem dX7_settleLoans_48 : decode cX7_settleLoans 48 = .ok (.getfield 21, 3) := by decide +kernel
theorem dX7_settleLoans_51 : decode cX7_settleLoans 51 = .ok (.getfield 168, 3) := by decide +kernel
theorem dX7_settleLoans_54 : decode cX7_settleLoans 54 = .ok (.iload_n 1, 1) := by decide +kernel
theorem dX7_settleLoans_55 : decode cX7_settleLoans 55 = .ok (.iaload, 1) := by decide +kernel
theorem dX7_settleLoans_56 : decode cX7_settleLoans 56 = .ok (.iload_n 3, 1) := by decide +kernel
theorem dX7_settleLoans_57 : decode cX7_settleLoans 57 = .ok (.invokevirtual 110, 3) := by decide +kernel
theorem dX7_settleLoans_60 : decode cX7_settleLoans 60 = .ok (.iinc 1 1, 3) := by decide +kernel
theorem dX7_settleLoans_63 : decode cX7_settleLoans 63 = .ok (.goto (-61), 3) := by decide +kernel
theorem dX7_settleLoans_66 : decode cX7_settleLoans 66 = .ok (.aload_n 0, 1) := by decide +kernel
theorem dX7_settleLoans_67 : decode cX7_settleLoans 67 = .ok (.getfield 21, 3) := by decide +kernel
theorem dX7_settleLoans_70 : decode cX7_settleLoans 70 = .ok (.iconst 0, 1) := by decide +kernel
theorem dX7_settleLoans_71 : decode cX7_settleLoans 71 = .ok (.putfield 60, 3) := by decide +kernel
theorem dX7_settleLoans_74 : decode cX7_settleLoans 74 = .ok (.return_, 1) := by decide +kernel
theorem dX8_pass_0 : decode cX8_pass 0 = .ok (.aload_n 0, 1) := by decide +kernel
theorem dX8_pass_1 : decode cX8_pass 1 = .ok (.iconst 0, 1) := by decide +kernel
theorem dX8_pass_2 : decode cX8_pass 2 = .ok (.putfield 29, 3) := by decide +kernel
theorem dX8_pass_5 : decode cX8_pass 5 = .ok (.aload_n 0, 1) := by decide +kernel
theorem dX8_pass_6 : decode cX8_pass 6 = .ok (.iconst 0, 1) := by decide +kernel
theorem dX8_pass_7 : decode cX8_pass 7 = .ok (.putfield 33, 3) := by decide +kernel
theorem dX8_pass_10 : decode cX8_pass 10 = .ok (.iconst 0, 1) := by decide +kernel
theorem dX8_pass_11 : decode cX8_pass 11 = .ok (.istore_n 3, 1) := by decide +kernel
theorem dX8_pass_12 : decode cX8_pass 12 = .ok (.iload_n 3, 1) := by decide +kernel
theorem dX8_pass_13 : decode cX8_pass 13 = .ok (.aload_n 1, 1) := by decide +kernel
theorem dX8_pass_14 : decode cX8_pass 14 = .ok (.getfield 36, 3) := by decide +kernel
theorem dX8_pass_17 : decode cX8_pass 17 = .ok (.if_icmp .ge 22, 3) := by decide +kernel
theorem dX8_pass_20 : decode cX8_pass 20 = .ok (.aload_n 0, 1) := by decide +kernel
theorem dX8_pass_21 : decode cX8_pass 21 = .ok (.getfield 25, 3) := by decide +kernel
theorem dX8_pass_24 : decode cX8_pass 24 = .ok (.iload_n 3, 1) := by decide +kernel
theorem dX8_pass_25 : decode cX8_pass 25 = .ok (.aload_n 0, 1) := by decide +kernel
theorem dX8_pass_26 : decode cX8_pass 26 = .ok (.aload_n 1, 1) := by decide +kernel
theorem dX8_pass_27 : decode cX8_pass 27 = .ok (.iload_n 3, 1) := by decide +kernel
theorem dX8_pass_28 : decode cX8_pass 28 = .ok (.iload_n 2, 1) := by decide +kernel
theorem dX8_pass_29 : decode cX8_pass 29 = .ok (.invokevirtual 41, 3) := by decide +kernel
theorem dX8_pass_32 : decode cX8_pass 32 = .ok (.iastore, 1) := by decide +kernel
theorem dX8_pass_33 : decode cX8_pass 33 = .ok (.iinc 3 1, 3) := by decide +kernel
theorem dX8_pass_36 : decode cX8_pass 36 = .ok (.goto (-24), 3) := by decide +kernel
theorem dX8_pass_39 : decode cX8_pass 39 = .ok (.iload_n 2, 1) := by decide +kernel
theorem dX8_pass_40 : decode cX8_pass 40 = .ok (.ifCond .eq 22, 3) := by decide +kernel
theorem dX8_pass_43 : decode cX8_pass 43 = .ok (.aload_n 1, 1) := by decide +kernel
theorem dX8_pass_44 : decode cX8_pass 44 = .ok (.aload_n 0, 1) := by decide +kernel
theorem dX8_pass_45 : decode cX8_pass 45 = .ok (.getfield 21, 3) := by decide +kernel
theorem dX8_pass_48 : decode cX8_pass 48 = .ok (.invokevirtual 45, 3) := by decide +kernel
theorem dX8_pass_51 : decode cX8_pass 51 = .ok (.aload_n 0, 1) := by decide +kernel
theorem dX8_pass_52 : decode cX8_pass 52 = .ok (.aload_n 0, 1) := by decide +kernel
theorem dX8_pass_53 : decode cX8_pass 53 = .ok (.getfield 21, 3) := by decide +kernel
theorem dX8_pass_56 : decode cX8_pass 56 = .ok (.getfield 49, 3) := by decide +kernel
theorem dX8_pass_59 : decode cX8_pass 59 = .ok (.putfield 33, 3) := by decide +kernel
theorem dX8_pass_62 : decode cX8_pass 62 = .ok (.iconst 0, 1) := by decide +kernel
theorem dX8_pass_63 : decode cX8_pass 63 = .ok (.istore_n 3, 1) := by decide +kernel
theorem dX8_pass_64 : decode cX8_pass 64 = .ok (.iload_n 3, 1) := by decide +kernel
theorem dX8_pass_65 : decode cX8_pass 65 = .ok (.aload_n 1, 1) := by decide +kernel
theorem dX8_pass_66 : decode cX8_pass 66 = .ok (.getfield 36, 3) := by decide +kernel
theorem dX8_pass_69 : decode cX8_pass 69 = .ok (.if_icmp .ge 45, 3) := by decide +kernel
theorem dX8_pass_72 : decode cX8_pass 72 = .ok (.aload_n 1, 1) := by decide +kernel
theorem dX8_pass_73 : decode cX8_pass 73 = .ok (.getfield 50, 3) := by decide +kernel
theorem dX8_pass_76 : decode cX8_pass 76 = .ok (.iload_n 3, 1) := by decide +kernel
theorem dX8_pass_77 : decode cX8_pass 77 = .ok (.aaload, 1) := by decide +kernel
theorem dX8_pass_78 : decode cX8_pass 78 = .ok (.astore 4, 2) := by decide +kernel
theorem dX8_pass_80 : decode cX8_pass 80 = .ok (.aload 4, 2) := by decide +kernel
theorem dX8_pass_82 : decode cX8_pass 82 = .ok (.dup, 1) := by decide +kernel
theorem dX8_pass_83 : decode cX8_pass 83 = .ok (.getfield 54, 3) := by decide +kernel
theorem dX8_pass_86 : decode cX8_pass 86 = .ok (.aload 4, 2) := by decide +kernel
theorem dX8_pass_88 : decode cX8_pass 88 = .ok (.getfield 59, 3) := by decide +kernel
theorem dX8_pass_91 : decode cX8_pass 91 = .ok (.aload 4, 2) := by decide +kernel
theorem dX8_pass_93 : decode cX8_pass 93 = .ok (.getfield 62, 3) := by decide +kernel
theorem dX8_pass_96 : decode cX8_pass 96 = .ok (.imul, 1) := by decide +kernel
theorem dX8_pass_97 : decode cX8_pass 97 = .ok (.aload_n 0, 1) := by decide +kernel
theorem dX8_pass_98 : decode cX8_pass 98 = .ok (.getfield 25, 3) := by decide +kernel
theorem dX8_pass_101 : decode cX8_pass 101 = .ok (.iload_n 3, 1) := by decide +kernel
theorem dX8_pass_102 : decode cX8_pass 102 = .ok (.iaload, 1) := by decide +kernel
theorem dX8_pass_103 : decode cX8_pass 103 = .ok (.iadd, 1) := by decide +kernel
theorem dX8_pass_104 : decode cX8_pass 104 = .ok (.iadd, 1) := by decide +kernel
theorem dX8_pass_105 : decode cX8_pass 105 = .ok (.putfield 54, 3) := by decide +kernel
theorem dX8_pass_108 : decode cX8_pass 108 = .ok (.iinc 3 1, 3) := by decide +kernel
theorem dX8_pass_111 : decode cX8_pass 111 = .ok (.goto (-47), 3) := by decide +kernel
theorem dX8_pass_114 : decode cX8_pass 114 = .ok (.aload_n 1, 1) := by decide +kernel
theorem dX8_pass_115 : decode cX8_pass 115 = .ok (.dup, 1) := by decide +kernel
theorem dX8_pass_116 : decode cX8_pass 116 = .ok (.getfield 65, 3) := by decide +kernel
theorem dX8_pass_119 : decode cX8_pass 119 = .ok (.iconst 1, 1) := by decide +kernel
theorem dX8_pass_120 : decode cX8_pass 120 = .ok (.iadd, 1) := by decide +kernel
theorem dX8_pass_121 : decode cX8_pass 121 = .ok (.putfield 65, 3) := by decide +kernel
theorem dX8_pass_124 : decode cX8_pass 124 = .ok (.return_, 1) := by decide +kernel
theorem dX8_lossOf_0 : decode cX8_lossOf 0 = .ok (.aload_n 0, 1) := by decide +kernel
theorem dX8_lossOf_1 : decode cX8_lossOf 1 = .ok (.getfield 21, 3) := by decide +kernel
theorem dX8_lossOf_4 : decode cX8_lossOf 4 = .ok (.iload_n 1, 1) := by decide +kernel
theorem dX8_lossOf_5 : decode cX8_lossOf 5 = .ok (.invokevirtual 68, 3) := by decide +kernel
theorem dX8_lossOf_8 : decode cX8_lossOf 8 = .ok (.ireturn, 1) := by decide +kernel
theorem dX8_move_0 : decode cX8_move 0 = .ok (.aload_n 1, 1) := by decide +kernel
theorem dX8_move_1 : decode cX8_move 1 = .ok (.getfield 50, 3) := by decide +kernel
theorem dX8_move_4 : decode cX8_move 4 = .ok (.iload_n 2, 1) := by decide +kernel
theorem dX8_move_5 : decode cX8_move 5 = .ok (.aaload, 1) := by decide +kernel
theorem dX8_move_6 : decode cX8_move 6 = .ok (.astore 4, 2) := by decide +kernel
theorem dX8_move_8 : decode cX8_move 8 = .ok (.aload 4, 2) := by decide +kernel
theorem dX8_move_10 : decode cX8_move 10 = .ok (.getfield 72, 3) := by decide +kernel
theorem dX8_move_13 : decode cX8_move 13 = .ok (.iconst 5, 1) := by decide +kernel
theorem dX8_move_14 : decode cX8_move 14 = .ok (.if_icmp .ne 103, 3) := by decide +kernel
theorem dX8_move_17 : decode cX8_move 17 = .ok (.aload_n 0, 1) := by decide +kernel
theorem dX8_move_18 : decode cX8_move 18 = .ok (.getfield 12, 3) := by decide +kernel
theorem dX8_move_21 : decode cX8_move 21 = .ok (.aload_n 1, 1) := by decide +kernel
theorem dX8_move_22 : decode cX8_move 22 = .ok (.iload_n 2, 1) := by decide +kernel
theorem dX8_move_23 : decode cX8_move 23 = .ok (.iconst 0, 1) := by decide +kernel
theorem dX8_move_24 : decode cX8_move 24 = .ok (.iload_n 3, 1) := by decide +kernel
theorem dX8_move_25 : decode cX8_move 25 = .ok (.invokevirtual 75, 3) := by decide +kernel
theorem dX8_move_28 : decode cX8_move 28 = .ok (.aload_n 0, 1) := by decide +kernel
theorem dX8_move_29 : decode cX8_move 29 = .ok (.getfield 12, 3) := by decide +kernel
theorem dX8_move_32 : decode cX8_move 32 = .ok (.aload_n 1, 1) := by decide +kernel
theorem dX8_move_33 : decode cX8_move 33 = .ok (.iconst 1, 1) := by decide +kernel
theorem dX8_move_34 : decode cX8_move 34 = .ok (.invokevirtual 79, 3) := by decide +kernel
theorem dX8_move_37 : decode cX8_move 37 = .ok (.aload_n 0, 1) := by decide +kernel
theorem dX8_move_38 : decode cX8_move 38 = .ok (.getfield 12, 3) := by decide +kernel
theorem dX8_move_41 : decode cX8_move 41 = .ok (.aload_n 1, 1) := by decide +kernel
theorem dX8_move_42 : decode cX8_move 42 = .ok (.iconst 0, 1) := by decide +kernel
theorem dX8_move_43 : decode cX8_move 43 = .ok (.invokevirtual 79, 3) := by decide +kernel
theorem dX8_move_46 : decode cX8_move 46 = .ok (.aload_n 0, 1) := by decide +kernel
theorem dX8_move_47 : decode cX8_move 47 = .ok (.dup, 1) := by decide +kernel
theorem dX8_move_48 : decode cX8_move 48 = .ok (.getfield 29, 3) := by decide +kernel
theorem dX8_move_51 : decode cX8_move 51 = .ok (.iconst 1, 1) := by decide +kernel
theorem dX8_move_52 : decode cX8_move 52 = .ok (.aload_n 0, 1) := by decide +kernel
theorem dX8_move_53 : decode cX8_move 53 = .ok (.getfield 12, 3) := by decide +kernel
theorem dX8_move_56 : decode cX8_move 56 = .ok (.getfield 83, 3) := by decide +kernel
theorem dX8_move_59 : decode cX8_move 59 = .ok (.isub, 1) := by decide +kernel
theorem dX8_move_60 : decode cX8_move 60 = .ok (.iadd, 1) := by decide +kernel
theorem dX8_move_61 : decode cX8_move 61 = .ok (.putfield 29, 3) := by decide +kernel
theorem dX8_move_64 : decode cX8_move 64 = .ok (.aload_n 1, 1) := by decide +kernel
theorem dX8_move_65 : decode cX8_move 65 = .ok (.iload_n 2, 1) := by decide +kernel
theorem dX8_move_66 : decode cX8_move 66 = .ok (.aload_n 0, 1) := by decide +kernel
theorem dX8_move_67 : decode cX8_move 67 = .ok (.getfield 12, 3) := by decide +kernel
theorem dX8_move_70 : decode cX8_move 70 = .ok (.getfield 83, 3) := by decide +kernel
theorem dX8_move_73 : decode cX8_move 73 = .ok (.aload_n 0, 1) := by decide +kernel
theorem dX8_move_74 : decode cX8_move 74 = .ok (.getfield 12, 3) := by decide +kernel
theorem dX8_move_77 : decode cX8_move 77 = .ok (.getfield 86, 3) := by decide +kernel
theorem dX8_move_80 : decode cX8_move 80 = .ok (.aload_n 0, 1) := by decide +kernel
theorem dX8_move_81 : decode cX8_move 81 = .ok (.getfield 12, 3) := by decide +kernel
theorem dX8_move_84 : decode cX8_move 84 = .ok (.getfield 89, 3) := by decide +kernel
theorem dX8_move_87 : decode cX8_move 87 = .ok (.aload_n 0, 1) := by decide +kernel
theorem dX8_move_88 : decode cX8_move 88 = .ok (.getfield 12, 3) := by decide +kernel
theorem dX8_move_91 : decode cX8_move 91 = .ok (.getfield 92, 3) := by decide +kernel
theorem dX8_move_94 : decode cX8_move 94 = .ok (.invokevirtual 95, 3) := by decide +kernel
theorem dX8_move_97 : decode cX8_move 97 = .ok (.aload 4, 2) := by decide +kernel
theorem dX8_move_99 : decode cX8_move 99 = .ok (.aload_n 0, 1) := by decide +kernel
theorem dX8_move_100 : decode cX8_move 100 = .ok (.getfield 12, 3) := by decide +kernel
theorem dX8_move_103 : decode cX8_move 103 = .ok (.getfield 83, 3) := by decide +kernel
theorem dX8_move_106 : decode cX8_move 106 = .ok (.aload_n 0, 1) := by decide +kernel
theorem dX8_move_107 : decode cX8_move 107 = .ok (.getfield 12, 3) := by decide +kernel
theorem dX8_move_110 : decode cX8_move 110 = .ok (.getfield 86, 3) := by decide +kernel
theorem dX8_move_113 : decode cX8_move 113 = .ok (.invokevirtual 99, 3) := by decide +kernel
theorem dX8_move_116 : decode cX8_move 116 = .ok (.ireturn, 1) := by decide +kernel
theorem dX8_move_117 : decode cX8_move 117 = .ok (.aload_n 1, 1) := by decide +kernel
theorem dX8_move_118 : decode cX8_move 118 = .ok (.iload_n 2, 1) := by decide +kernel
theorem dX8_move_119 : decode cX8_move 119 = .ok (.iconst 1, 1) := by decide +kernel
theorem dX8_move_120 : decode cX8_move 120 = .ok (.iconst 0, 1) := by decide +kernel
theorem dX8_move_121 : decode cX8_move 121 = .ok (.iconst 0, 1) := by decide +kernel
theorem dX8_move_122 : decode cX8_move 122 = .ok (.iconst (-1), 1) := by decide +kernel
theorem dX8_move_123 : decode cX8_move 123 = .ok (.invokevirtual 95, 3) := by decide +kernel
theorem dX8_move_126 : decode cX8_move 126 = .ok (.iconst 0, 1) := by decide +kernel
theorem dX8_move_127 : decode cX8_move 127 = .ok (.istore 5, 2) := by decide +kernel
theorem dX8_move_129 : decode cX8_move 129 = .ok (.aload 4, 2) := by decide +kernel
theorem dX8_move_131 : decode cX8_move 131 = .ok (.getfield 72, 3) := by decide +kernel
theorem dX8_move_134 : decode cX8_move 134 = .ok (.tableswitch 97 0 3 #[30, 58, 67, 76], 30) := by decide +kernel
theorem dX8_move_164 : decode cX8_move 164 = .ok (.iconst 0, 1) := by decide +kernel
theorem dX8_move_165 : decode cX8_move 165 = .ok (.aload 4, 2) := by decide +kernel
theorem dX8_move_167 : decode cX8_move 167 = .ok (.invokevirtual 103, 3) := by decide +kernel
theorem dX8_move_170 : decode cX8_move 170 = .ok (.aload_n 1, 1) := by decide +kernel
theorem dX8_move_171 : decode cX8_move 171 = .ok (.iload_n 2, 1) := by decide +kernel
theorem dX8_move_172 : decode cX8_move 172 = .ok (.invokevirtual 107, 3) := by decide +kernel
theorem dX8_move_175 : decode cX8_move 175 = .ok (.isub, 1) := by decide +kernel
theorem dX8_move_176 : decode cX8_move 176 = .ok (.invokestatic 110, 3) := by decide +kernel
theorem dX8_move_179 : decode cX8_move 179 = .ok (.istore 5, 2) := by decide +kernel
theorem dX8_move_181 : decode cX8_move 181 = .ok (.aload_n 1, 1) := by decide +kernel
theorem dX8_move_182 : decode cX8_move 182 = .ok (.iload_n 2, 1) := by decide +kernel
theorem dX8_move_183 : decode cX8_move 183 = .ok (.iload 5, 2) := by decide +kernel
theorem dX8_move_185 : decode cX8_move 185 = .ok (.ineg, 1) := by decide +kernel
theorem dX8_move_186 : decode cX8_move 186 = .ok (.invokevirtual 115, 3) := by decide +kernel
theorem dX8_move_189 : decode cX8_move 189 = .ok (.goto 42, 3) := by decide +kernel
theorem dX8_move_192 : decode cX8_move 192 = .ok (.aload_n 0, 1) := by decide +kernel
theorem dX8_move_193 : decode cX8_move 193 = .ok (.aload_n 1, 1) := by decide +kernel
theorem dX8_move_194 : decode cX8_move 194 = .ok (.iload_n 2, 1) := by decide +kernel
theorem dX8_move_195 : decode cX8_move 195 = .ok (.invokevirtual 119, 3) := by decide +kernel
theorem dX8_move_198 : decode cX8_move 198 = .ok (.goto 33, 3) := by decide +kernel
theorem dX8_move_201 : decode cX8_move 201 = .ok (.aload_n 0, 1) := by decide +kernel
theorem dX8_move_202 : decode cX8_move 202 = .ok (.aload_n 1, 1) := by decide +kernel
theorem dX8_move_203 : decode cX8_move 203 = .ok (.iload_n 2, 1) := by decide +kernel
theorem dX8_move_204 : decode cX8_move 204 = .ok (.invokevirtual 122, 3) := by decide +kernel
theorem dX8_move_207 : decode cX8_move 207 = .ok (.goto 24, 3) := by decide +kernel
theorem dX8_move_210 : decode cX8_move 210 = .ok (.aload 4, 2) := by decide +kernel
theorem dX8_move_212 : decode cX8_move 212 = .ok (.aload 4, 2) := by decide +kernel
theorem dX8_move_214 : decode cX8_move 214 = .ok (.getfield 125, 3) := by decide +kernel
theorem dX8_move_217 : decode cX8_move 217 = .ok (.aload 4, 2) := by decide +kernel
theorem dX8_move_219 : decode cX8_move 219 = .ok (.getfield 62, 3) := by decide +kernel
theorem dX8_move_222 : decode cX8_move 222 = .ok (.invokestatic 128, 3) := by decide +kernel
theorem dX8_move_225 : decode cX8_move 225 = .ok (.putfield 131, 3) := by decide +kernel
theorem dX8_move_228 : decode cX8_move 228 = .ok (.goto 3, 3) := by decide +kernel
theorem dX8_move_231 : decode cX8_move 231 = .ok (.aload 4, 2) := by decide +kernel
theorem dX8_move_233 : decode cX8_move 233 = .ok (.iconst 1, 1) := by decide +kernel
theorem dX8_move_234 : decode cX8_move 234 = .ok (.iload 5, 2) := by decide +kernel
theorem dX8_move_236 : decode cX8_move 236 = .ok (.invokevirtual 99, 3) := by decide +kernel
theorem dX8_move_239 : decode cX8_move 239 = .ok (.ireturn, 1) := by decide +kernel
theorem dX8_match_0 : decode cX8_match 0 = .ok (.aload_n 1, 1) := by decide +kernel
theorem dX8_match_1 : decode cX8_match 1 = .ok (.iload_n 2, 1) := by decide +kernel
theorem dX8_match_2 : decode cX8_match 2 = .ok (.invokevirtual 107, 3) := by decide +kernel
theorem dX8_match_5 : decode cX8_match 5 = .ok (.istore_n 3, 1) := by decide +kernel
theorem dX8_match_6 : decode cX8_match 6 = .ok (.aload_n 1, 1) := by decide +kernel
theorem dX8_match_7 : decode cX8_match 7 = .ok (.getfield 50, 3) := by decide +kernel
theorem dX8_match_10 : decode cX8_match 10 = .ok (.iload_n 2, 1) := by decide +kernel
theorem dX8_match_11 : decode cX8_match 11 = .ok (.aaload, 1) := by decide +kernel
theorem dX8_match_12 : decode cX8_match 12 = .ok (.invokevirtual 103, 3) := by decide +kernel
theorem dX8_match_15 : decode cX8_match 15 = .ok (.iload_n 3, 1) := by decide +kernel
theorem dX8_match_16 : decode cX8_match 16 = .ok (.isub, 1) := by decide +kernel
theorem dX8_match_17 : decode cX8_match 17 = .ok (.istore 4, 2) := by decide +kernel
theorem dX8_match_19 : decode cX8_match 19 = .ok (.iconst 0, 1) := by decide +kernel
theorem dX8_match_20 : decode cX8_match 20 = .ok (.istore 5, 2) := by decide +kernel
theorem dX8_match_22 : decode cX8_match 22 = .ok (.iload 5, 2) := by decide +kernel
theorem dX8_match_24 : decode cX8_match 24 = .ok (.aload_n 1, 1) := by decide +kernel
theorem dX8_match_25 : decode cX8_match 25 = .ok (.getfield 36, 3) := by decide +kernel
theorem dX8_match_28 : decode cX8_match 28 = .ok (.if_icmp .ge 45, 3) := by decide +kernel
theorem dX8_match_31 : decode cX8_match 31 = .ok (.iload 4, 2) := by decide +kernel
theorem dX8_match_33 : decode cX8_match 33 = .ok (.ifCond .le 40, 3) := by decide +kernel
theorem dX8_match_36 : decode cX8_match 36 = .ok (.iload 5, 2) := by decide +kernel
theorem dX8_match_38 : decode cX8_match 38 = .ok (.iload_n 2, 1) := by decide +kernel
theorem dX8_match_39 : decode cX8_match 39 = .ok (.if_icmp .eq 28, 3) := by decide +kernel
theorem dX8_match_42 : decode cX8_match 42 = .ok (.aload_n 1, 1) := by decide +kernel
theorem dX8_match_43 : decode cX8_match 43 = .ok (.iload_n 2, 1) := by decide +kernel
theorem dX8_match_44 : decode cX8_match 44 = .ok (.iload 5, 2) := by decide +kernel
theorem dX8_match_46 : decode cX8_match 46 = .ok (.invokevirtual 134, 3) := by decide +kernel
theorem dX8_match_49 : decode cX8_match 49 = .ok (.iload_n 3, 1) := by decide +kernel
theorem dX8_match_50 : decode cX8_match 50 = .ok (.if_icmp .ne 17, 3) := by decide +kernel
theorem dX8_match_53 : decode cX8_match 53 = .ok (.aload_n 1, 1) := by decide +kernel
theorem dX8_match_54 : decode cX8_match 54 = .ok (.iload_n 2, 1) := by decide +kernel
theorem dX8_match_55 : decode cX8_match 55 = .ok (.iload 5, 2) := by decide +kernel
theorem dX8_match_57 : decode cX8_match 57 = .ok (.iload 4, 2) := by decide +kernel
theorem dX8_match_59 : decode cX8_match 59 = .ok (.iconst 2, 1) := by decide +kernel
theorem dX8_match_60 : decode cX8_match 60 = .ok (.idiv, 1) := by decide +kernel
theorem dX8_match_61 : decode cX8_match 61 = .ok (.invokevirtual 137, 3) := by decide +kernel
theorem dX8_match_64 : decode cX8_match 64 = .ok (.iconst 0, 1) := by decide +kernel
theorem dX8_match_65 : decode cX8_match 65 = .ok (.istore 4, 2) := by decide +kernel
theorem dX8_match_67 : decode cX8_match 67 = .ok (.iinc 5 1, 3) := by decide +kernel
theorem dX8_match_70 : decode cX8_match 70 = .ok (.goto (-48), 3) := by decide +kernel
theorem dX8_match_73 : decode cX8_match 73 = .ok (.return_, 1) := by decide +kernel
theorem dX8_shareWithFriend_0 : decode cX8_shareWithFriend 0 = .ok (.aload_n 1, 1) := by decide +kernel
theorem dX8_shareWithFriend_1 : decode cX8_shareWithFriend 1 = .ok (.getfield 50, 3) := by decide +kernel
theorem dX8_shareWithFriend_4 : decode cX8_shareWithFriend 4 = .ok (.iload_n 2, 1) := by decide +kernel
theorem dX8_shareWithFriend_5 : decode cX8_shareWithFriend 5 = .ok (.aaload, 1) := by decide +kernel
theorem dX8_shareWithFriend_6 : decode cX8_shareWithFriend 6 = .ok (.getfield 125, 3) := by decide +kernel
theorem dX8_shareWithFriend_9 : decode cX8_shareWithFriend 9 = .ok (.istore_n 3, 1) := by decide +kernel
theorem dX8_shareWithFriend_10 : decode cX8_shareWithFriend 10 = .ok (.iload_n 3, 1) := by decide +kernel
theorem dX8_shareWithFriend_11 : decode cX8_shareWithFriend 11 = .ok (.ifCond .lt 16, 3) := by decide +kernel
theorem dX8_shareWithFriend_14 : decode cX8_shareWithFriend 14 = .ok (.iload_n 3, 1) := by decide +kernel
theorem dX8_shareWithFriend_15 : decode cX8_shareWithFriend 15 = .ok (.aload_n 1, 1) := by decide +kernel
theorem dX8_shareWithFriend_16 : decode cX8_shareWithFriend 16 = .ok (.getfield 36, 3) := by decide +kernel
theorem dX8_shareWithFriend_19 : decode cX8_shareWithFriend 19 = .ok (.if_icmp .ge 8, 3) := by decide +kernel
theorem dX8_shareWithFriend_22 : decode cX8_shareWithFriend 22 = .ok (.iload_n 3, 1) := by decide +kernel
theorem dX8_shareWithFriend_23 : decode cX8_shareWithFriend 23 = .ok (.iload_n 2, 1) := by decide +kernel
theorem dX8_shareWithFriend_24 : decode cX8_shareWithFriend 24 = .ok (.if_icmp .ne 4, 3) := by decide +kernel
theorem dX8_shareWithFriend_27 : decode cX8_shareWithFriend 27 = .ok (.return_, 1) := by decide +kernel
theorem dX8_shareWithFriend_28 : decode cX8_shareWithFriend 28 = .ok (.aload_n 1, 1) := by decide +kernel
theorem dX8_shareWithFriend_29 : decode cX8_shareWithFriend 29 = .ok (.getfield 50, 3) := by decide +kernel
theorem dX8_shareWithFriend_32 : decode cX8_shareWithFriend 32 = .ok (.iload_n 2, 1) := by decide +kernel
theorem dX8_shareWithFriend_33 : decode cX8_shareWithFriend 33 = .ok (.aaload, 1) := by decide +kernel
theorem dX8_shareWithFriend_34 : decode cX8_shareWithFriend 34 = .ok (.invokevirtual 103, 3) := by decide +kernel
theorem dX8_shareWithFriend_37 : decode cX8_shareWithFriend 37 = .ok (.aload_n 1, 1) := by decide +kernel
theorem dX8_shareWithFriend_38 : decode cX8_shareWithFriend 38 = .ok (.getfield 50, 3) := by decide +kernel
theorem dX8_shareWithFriend_41 : decode cX8_shareWithFriend 41 = .ok (.iload_n 3, 1) := by decide +kernel
theorem dX8_shareWithFriend_42 : decode cX8_shareWithFriend 42 = .ok (.aaload, 1) := by decide +kernel
theorem dX8_shareWithFriend_43 : decode cX8_shareWithFriend 43 = .ok (.invokevirtual 103, 3) := by decide +kernel
theorem dX8_shareWithFriend_46 : decode cX8_shareWithFriend 46 = .ok (.isub, 1) := by decide +kernel
theorem dX8_shareWithFriend_47 : decode cX8_shareWithFriend 47 = .ok (.istore 4, 2) := by decide +kernel
theorem dX8_shareWithFriend_49 : decode cX8_shareWithFriend 49 = .ok (.iload 4, 2) := by decide +kernel
theorem dX8_shareWithFriend_51 : decode cX8_shareWithFriend 51 = .ok (.ifCond .le 13, 3) := by decide +kernel
theorem dX8_shareWithFriend_54 : decode cX8_shareWithFriend 54 = .ok (.aload_n 1, 1) := by decide +kernel
theorem dX8_shareWithFriend_55 : decode cX8_shareWithFriend 55 = .ok (.iload_n 2, 1) := by decide +kernel
theorem dX8_shareWithFriend_56 : decode cX8_shareWithFriend 56 = .ok (.iload_n 3, 1) := by decide +kernel
theorem dX8_shareWithFriend_57 : decode cX8_shareWithFriend 57 = .ok (.iload 4, 2) := by decide +kernel
theorem dX8_shareWithFriend_59 : decode cX8_shareWithFriend 59 = .ok (.iconst 2, 1) := by decide +kernel
theorem dX8_shareWithFriend_60 : decode cX8_shareWithFriend 60 = .ok (.idiv, 1) := by decide +kernel
theorem dX8_shareWithFriend_61 : decode cX8_shareWithFriend 61 = .ok (.invokevirtual 137, 3) := by decide +kernel
theorem dX8_shareWithFriend_64 : decode cX8_shareWithFriend 64 = .ok (.return_, 1) := by decide +kernel
theorem dX9_feed_0 : decode cX9_feed 0 = .ok (.aload_n 0, 1) := by decide +kernel
theorem dX9_feed_1 : decode cX9_feed 1 = .ok (.getfield 10, 3) := by decide +kernel
theorem dX9_feed_4 : decode cX9_feed 4 = .ok (.getfield 69, 3) := by decide +kernel
theorem dX9_feed_7 : decode cX9_feed 7 = .ok (.bipush 20, 2) := by decide +kernel
theorem dX9_feed_9 : decode cX9_feed 9 = .ok (.iadd, 1) := by decide +kernel
theorem dX9_feed_10 : decode cX9_feed 10 = .ok (.sipush 1600, 3) := by decide +kernel
theorem dX9_feed_13 : decode cX9_feed 13 = .ok (.if_icmp .le 5, 3) := by decide +kernel
theorem dX9_feed_16 : decode cX9_feed 16 = .ok (.iconst (-1), 1) := by decide +kernel
theorem dX9_feed_17 : decode cX9_feed 17 = .ok (.ireturn, 1) := by decide +kernel
theorem dX9_feed_18 : decode cX9_feed 18 = .ok (.aload_n 0, 1) := by decide +kernel
theorem dX9_feed_19 : decode cX9_feed 19 = .ok (.getfield 10, 3) := by decide +kernel
theorem dX9_feed_22 : decode cX9_feed 22 = .ok (.iload_n 1, 1) := by decide +kernel
theorem dX9_feed_23 : decode cX9_feed 23 = .ok (.invokevirtual 73, 3) := by decide +kernel
theorem dX9_feed_26 : decode cX9_feed 26 = .ok (.aload_n 0, 1) := by decide +kernel
theorem dX9_feed_27 : decode cX9_feed 27 = .ok (.getfield 10, 3) := by decide +kernel
theorem dX9_feed_30 : decode cX9_feed 30 = .ok (.iload_n 2, 1) := by decide +kernel
theorem dX9_feed_31 : decode cX9_feed 31 = .ok (.invokevirtual 73, 3) := by decide +kernel
theorem dX9_feed_34 : decode cX9_feed 34 = .ok (.aload_n 0, 1) := by decide +kernel
theorem dX9_feed_35 : decode cX9_feed 35 = .ok (.getfield 10, 3) := by decide +kernel
theorem dX9_feed_38 : decode cX9_feed 38 = .ok (.iload_n 3, 1) := by decide +kernel
theorem dX9_feed_39 : decode cX9_feed 39 = .ok (.invokevirtual 73, 3) := by decide +kernel
theorem dX9_feed_42 : decode cX9_feed 42 = .ok (.aload_n 0, 1) := by decide +kernel
theorem dX9_feed_43 : decode cX9_feed 43 = .ok (.getfield 10, 3) := by decide +kernel
theorem dX9_feed_46 : decode cX9_feed 46 = .ok (.iload 4, 2) := by decide +kernel
theorem dX9_feed_48 : decode cX9_feed 48 = .ok (.invokevirtual 73, 3) := by decide +kernel
theorem dX9_feed_51 : decode cX9_feed 51 = .ok (.aload_n 0, 1) := by decide +kernel
theorem dX9_feed_52 : decode cX9_feed 52 = .ok (.getfield 10, 3) := by decide +kernel
theorem dX9_feed_55 : decode cX9_feed 55 = .ok (.iload 5, 2) := by decide +kernel
theorem dX9_feed_57 : decode cX9_feed 57 = .ok (.invokevirtual 73, 3) := by decide +kernel
theorem dX9_feed_60 : decode cX9_feed 60 = .ok (.aload_n 0, 1) := by decide +kernel
theorem dX9_feed_61 : decode cX9_feed 61 = .ok (.getfield 10, 3) := by decide +kernel
theorem dX9_feed_64 : decode cX9_feed 64 = .ok (.getfield 69, 3) := by decide +kernel
theorem dX9_feed_67 : decode cX9_feed 67 = .ok (.ireturn, 1) := by decide +kernel
theorem dX9_end_0 : decode cX9_end 0 = .ok (.iload_n 1, 1) := by decide +kernel
theorem dX9_end_1 : decode cX9_end 1 = .ok (.ifCond .lt 14, 3) := by decide +kernel
theorem dX9_end_4 : decode cX9_end 4 = .ok (.iload_n 1, 1) := by decide +kernel
theorem dX9_end_5 : decode cX9_end 5 = .ok (.aload_n 0, 1) := by decide +kernel
theorem dX9_end_6 : decode cX9_end 6 = .ok (.getfield 10, 3) := by decide +kernel
theorem dX9_end_9 : decode cX9_end 9 = .ok (.getfield 69, 3) := by decide +kernel
theorem dX9_end_12 : decode cX9_end 12 = .ok (.if_icmp .le 5, 3) := by decide +kernel
theorem dX9_end_15 : decode cX9_end 15 = .ok (.iconst (-1), 1) := by decide +kernel
theorem dX9_end_16 : decode cX9_end 16 = .ok (.ireturn, 1) := by decide +kernel
theorem dX9_end_17 : decode cX9_end 17 = .ok (.aload_n 0, 1) := by decide +kernel
theorem dX9_end_18 : decode cX9_end 18 = .ok (.getfield 10, 3) := by decide +kernel
theorem dX9_end_21 : decode cX9_end 21 = .ok (.iload_n 1, 1) := by decide +kernel
theorem dX9_end_22 : decode cX9_end 22 = .ok (.putfield 69, 3) := by decide +kernel
theorem dX9_end_25 : decode cX9_end 25 = .ok (.iload_n 1, 1) := by decide +kernel
theorem dX9_end_26 : decode cX9_end 26 = .ok (.ireturn, 1) := by decide +kernel
theorem dX9_town_0 : decode cX9_town 0 = .ok (.aload_n 0, 1) := by decide +kernel
theorem dX9_town_1 : decode cX9_town 1 = .ok (.getfield 10, 3) := by decide +kernel
theorem dX9_town_4 : decode cX9_town 4 = .ok (.invokevirtual 77, 3) := by decide +kernel
theorem dX9_town_7 : decode cX9_town 7 = .ok (.ifCond .ne 6, 3) := by decide +kernel
theorem dX9_town_10 : decode cX9_town 10 = .ok (.bipush (-4), 2) := by decide +kernel
theorem dX9_town_12 : decode cX9_town 12 = .ok (.ireturn, 1) := by decide +kernel
theorem dX9_town_13 : decode cX9_town 13 = .ok (.aload_n 0, 1) := by decide +kernel
theorem dX9_town_14 : decode cX9_town 14 = .ok (.getfield 19, 3) := by decide +kernel
theorem dX9_town_17 : decode cX9_town 17 = .ok (.aload_n 0, 1) := by decide +kernel
theorem dX9_town_18 : decode cX9_town 18 = .ok (.getfield 10, 3) := by decide +kernel
theorem dX9_town_21 : decode cX9_town 21 = .ok (.getfield 81, 3) := by decide +kernel
theorem dX9_town_24 : decode cX9_town 24 = .ok (.invokevirtual 84, 3) := by decide +kernel
theorem dX9_town_27 : decode cX9_town 27 = .ok (.aload_n 0, 1) := by decide +kernel
theorem dX9_town_28 : decode cX9_town 28 = .ok (.getfield 10, 3) := by decide +kernel
theorem dX9_town_31 : decode cX9_town 31 = .ok (.iconst 0, 1) := by decide +kernel
theorem dX9_town_32 : decode cX9_town 32 = .ok (.putfield 69, 3) := by decide +kernel
theorem dX9_town_35 : decode cX9_town 35 = .ok (.aload_n 0, 1) := by decide +kernel
theorem dX9_town_36 : decode cX9_town 36 = .ok (.getfield 19, 3) := by decide +kernel
theorem dX9_town_39 : decode cX9_town 39 = .ok (.getfield 88, 3) := by decide +kernel
theorem dX9_town_42 : decode cX9_town 42 = .ok (.ireturn, 1) := by decide +kernel
theorem dX9_fault_0 : decode cX9_fault 0 = .ok (.iload_n 1, 1) := by decide +kernel
theorem dX9_fault_1 : decode cX9_fault 1 = .ok (.ifCond .ne 11, 3) := by decide +kernel
theorem dX9_fault_4 : decode cX9_fault 4 = .ok (.aload_n 0, 1) := by decide +kernel
theorem dX9_fault_5 : decode cX9_fault 5 = .ok (.getfield 10, 3) := by decide +kernel
theorem dX9_fault_8 : decode cX9_fault 8 = .ok (.getfield 91, 3) := by decide +kernel
theorem dX9_fault_11 : decode cX9_fault 11 = .ok (.ireturn, 1) := by decide +kernel
theorem dX9_fault_12 : decode cX9_fault 12 = .ok (.iload_n 1, 1) := by decide +kernel
theorem dX9_fault_13 : decode cX9_fault 13 = .ok (.iconst 1, 1) := by decide +kernel
theorem dX9_fault_14 : decode cX9_fault 14 = .ok (.if_icmp .ne 13, 3) := by decide +kernel
theorem dX9_fault_17 : decode cX9_fault 17 = .ok (.aload_n 0, 1) := by decide +kernel
theorem dX9_fault_18 : decode cX9_fault 18 = .ok (.getfield 10, 3) := by decide +kernel
theorem dX9_fault_21 : decode cX9_fault 21 = .ok (.getfield 94, 3) := by decide +kernel
theorem dX9_fault_24 : decode cX9_fault 24 = .ok (.goto 4, 3) := by decide +kernel
theorem dX9_fault_27 : decode cX9_fault 27 = .ok (.iconst (-1), 1) := by decide +kernel
theorem dX9_fault_28 : decode cX9_fault 28 = .ok (.ireturn, 1) := by decide +kernel
theorem dX9_isPerson_0 : decode cX9_isPerson 0 = .ok (.lload_n 1, 1) := by decide +kernel
theorem dX9_isPerson_1 : decode cX9_isPerson 1 = .ok (.lconst 0, 1) := by decide +kernel
theorem dX9_isPerson_2 : decode cX9_isPerson 2 = .ok (.lcmp, 1) := by decide +kernel
theorem dX9_isPerson_3 : decode cX9_isPerson 3 = .ok (.ifCond .lt 20, 3) := by decide +kernel
theorem dX9_isPerson_6 : decode cX9_isPerson 6 = .ok (.lload_n 1, 1) := by decide +kernel
theorem dX9_isPerson_7 : decode cX9_isPerson 7 = .ok (.aload_n 0, 1) := by decide +kernel
theorem dX9_isPerson_8 : decode cX9_isPerson 8 = .ok (.getfield 19, 3) := by decide +kernel
theorem dX9_isPerson_11 : decode cX9_isPerson 11 = .ok (.getfield 97, 3) := by decide +kernel
theorem dX9_isPerson_14 : decode cX9_isPerson 14 = .ok (.i2l, 1) := by decide +kernel
theorem dX9_isPerson_15 : decode cX9_isPerson 15 = .ok (.lcmp, 1) := by decide +kernel
theorem dX9_isPerson_16 : decode cX9_isPerson 16 = .ok (.ifCond .ge 7, 3) := by decide +kernel
theorem dX9_isPerson_19 : decode cX9_isPerson 19 = .ok (.iconst 1, 1) := by decide +kernel
theorem dX9_isPerson_20 : decode cX9_isPerson 20 = .ok (.goto 4, 3) := by decide +kernel
theorem dX9_isPerson_23 : decode cX9_isPerson 23 = .ok (.iconst 0, 1) := by decide +kernel
theorem dX9_isPerson_24 : decode cX9_isPerson 24 = .ok (.ireturn, 1) := by decide +kernel
theorem dX9_arePair_0 : decode cX9_arePair 0 = .ok (.aload_n 0, 1) := by decide +kernel
theorem dX9_arePair_1 : decode cX9_arePair 1 = .ok (.iload_n 1, 1) := by decide +kernel
theorem dX9_arePair_2 : decode cX9_arePair 2 = .ok (.i2l, 1) := by decide +kernel
theorem dX9_arePair_3 : decode cX9_arePair 3 = .ok (.invokevirtual 100, 3) := by decide +kernel
theorem dX9_arePair_6 : decode cX9_arePair 6 = .ok (.ifCond .eq 21, 3) := by decide +kernel
theorem dX9_arePair_9 : decode cX9_arePair 9 = .ok (.aload_n 0, 1) := by decide +kernel
theorem dX9_arePair_10 : decode cX9_arePair 10 = .ok (.iload_n 2, 1) := by decide +kernel
theorem dX9_arePair_11 : decode cX9_arePair 11 = .ok (.i2l, 1) := by decide +kernel
theorem dX9_arePair_12 : decode cX9_arePair 12 = .ok (.invokevirtual 100, 3) := by decide +kernel
theorem dX9_arePair_15 : decode cX9_arePair 15 = .ok (.ifCond .eq 12, 3) := by decide +kernel
theorem dX9_arePair_18 : decode cX9_arePair 18 = .ok (.iload_n 1, 1) := by decide +kernel
theorem dX9_arePair_19 : decode cX9_arePair 19 = .ok (.iload_n 2, 1) := by decide +kernel
theorem dX9_arePair_20 : decode cX9_arePair 20 = .ok (.if_icmp .eq 7, 3) := by decide +kernel
theorem dX9_arePair_23 : decode cX9_arePair 23 = .ok (.iconst 1, 1) := by decide +kernel
