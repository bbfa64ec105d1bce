theorem dX10_lend_68 : decode cX10_lend 68 = .ok (.iload_n 2, 1) := by decide +kernel
theorem dX10_lend_69 : decode cX10_lend 69 = .ok (.iconst 0, 1) := by decide +kernel
theorem dX10_lend_70 : decode cX10_lend 70 = .ok (.invokevirtual 276, 3) := by decide +kernel
theorem dX10_lend_73 : decode cX10_lend 73 = .ok (.iload_n 3, 1) := by decide +kernel
theorem dX10_lend_74 : decode cX10_lend 74 = .ok (.iadd, 1) := by decide +kernel
theorem dX10_lend_75 : decode cX10_lend 75 = .ok (.invokevirtual 284, 3) := by decide +kernel
theorem dX10_lend_78 : decode cX10_lend 78 = .ok (.sipush 160, 3) := by decide +kernel
theorem dX10_lend_81 : decode cX10_lend 81 = .ok (.iconst 3, 1) := by decide +kernel
theorem dX10_lend_82 : decode cX10_lend 82 = .ok (.aload_n 0, 1) := by decide +kernel
theorem dX10_lend_83 : decode cX10_lend 83 = .ok (.getfield 13, 3) := by decide +kernel
theorem dX10_lend_86 : decode cX10_lend 86 = .ok (.bipush 9, 2) := by decide +kernel
theorem dX10_lend_88 : decode cX10_lend 88 = .ok (.iaload, 1) := by decide +kernel
theorem dX10_lend_89 : decode cX10_lend 89 = .ok (.imul, 1) := by decide +kernel
theorem dX10_lend_90 : decode cX10_lend 90 = .ok (.iadd, 1) := by decide +kernel
theorem dX10_lend_91 : decode cX10_lend 91 = .ok (.istore 4, 2) := by decide +kernel
theorem dX10_lend_93 : decode cX10_lend 93 = .ok (.aload_n 0, 1) := by decide +kernel
theorem dX10_lend_94 : decode cX10_lend 94 = .ok (.getfield 13, 3) := by decide +kernel
theorem dX10_lend_97 : decode cX10_lend 97 = .ok (.iload 4, 2) := by decide +kernel
theorem dX10_lend_99 : decode cX10_lend 99 = .ok (.iload_n 1, 1) := by decide +kernel
theorem dX10_lend_100 : decode cX10_lend 100 = .ok (.iastore, 1) := by decide +kernel
theorem dX10_lend_101 : decode cX10_lend 101 = .ok (.aload_n 0, 1) := by decide +kernel
theorem dX10_lend_102 : decode cX10_lend 102 = .ok (.getfield 13, 3) := by decide +kernel
theorem dX10_lend_105 : decode cX10_lend 105 = .ok (.iload 4, 2) := by decide +kernel
theorem dX10_lend_107 : decode cX10_lend 107 = .ok (.iconst 1, 1) := by decide +kernel
theorem dX10_lend_108 : decode cX10_lend 108 = .ok (.iadd, 1) := by decide +kernel
theorem dX10_lend_109 : decode cX10_lend 109 = .ok (.iload_n 2, 1) := by decide +kernel
theorem dX10_lend_110 : decode cX10_lend 110 = .ok (.iastore, 1) := by decide +kernel
theorem dX10_lend_111 : decode cX10_lend 111 = .ok (.aload_n 0, 1) := by decide +kernel
theorem dX10_lend_112 : decode cX10_lend 112 = .ok (.getfield 13, 3) := by decide +kernel
theorem dX10_lend_115 : decode cX10_lend 115 = .ok (.iload 4, 2) := by decide +kernel
theorem dX10_lend_117 : decode cX10_lend 117 = .ok (.iconst 2, 1) := by decide +kernel
theorem dX10_lend_118 : decode cX10_lend 118 = .ok (.iadd, 1) := by decide +kernel
theorem dX10_lend_119 : decode cX10_lend 119 = .ok (.iload_n 3, 1) := by decide +kernel
theorem dX10_lend_120 : decode cX10_lend 120 = .ok (.iastore, 1) := by decide +kernel
theorem dX10_lend_121 : decode cX10_lend 121 = .ok (.aload_n 0, 1) := by decide +kernel
theorem dX10_lend_122 : decode cX10_lend 122 = .ok (.getfield 13, 3) := by decide +kernel
theorem dX10_lend_125 : decode cX10_lend 125 = .ok (.bipush 9, 2) := by decide +kernel
theorem dX10_lend_127 : decode cX10_lend 127 = .ok (.dup2, 1) := by decide +kernel
theorem dX10_lend_128 : decode cX10_lend 128 = .ok (.iaload, 1) := by decide +kernel
theorem dX10_lend_129 : decode cX10_lend 129 = .ok (.iconst 1, 1) := by decide +kernel
theorem dX10_lend_130 : decode cX10_lend 130 = .ok (.iadd, 1) := by decide +kernel
theorem dX10_lend_131 : decode cX10_lend 131 = .ok (.iastore, 1) := by decide +kernel
theorem dX10_lend_132 : decode cX10_lend 132 = .ok (.aload_n 0, 1) := by decide +kernel
theorem dX10_lend_133 : decode cX10_lend 133 = .ok (.getfield 13, 3) := by decide +kernel
theorem dX10_lend_136 : decode cX10_lend 136 = .ok (.bipush 9, 2) := by decide +kernel
theorem dX10_lend_138 : decode cX10_lend 138 = .ok (.iaload, 1) := by decide +kernel
theorem dX10_lend_139 : decode cX10_lend 139 = .ok (.ireturn, 1) := by decide +kernel
theorem dX10_round_0 : decode cX10_round 0 = .ok (.aload_n 0, 1) := by decide +kernel
theorem dX10_round_1 : decode cX10_round 1 = .ok (.iload_n 1, 1) := by decide +kernel
theorem dX10_round_2 : decode cX10_round 2 = .ok (.iload_n 2, 1) := by decide +kernel
theorem dX10_round_3 : decode cX10_round 3 = .ok (.invokevirtual 289, 3) := by decide +kernel
theorem dX10_round_6 : decode cX10_round 6 = .ok (.ifCond .ne 6, 3) := by decide +kernel
theorem dX10_round_9 : decode cX10_round 9 = .ok (.bipush (-2), 2) := by decide +kernel
theorem dX10_round_11 : decode cX10_round 11 = .ok (.ireturn, 1) := by decide +kernel
theorem dX10_round_12 : decode cX10_round 12 = .ok (.iconst 1, 1) := by decide +kernel
theorem dX10_round_13 : decode cX10_round 13 = .ok (.istore_n 3, 1) := by decide +kernel
theorem dX10_round_14 : decode cX10_round 14 = .ok (.iload_n 3, 1) := by decide +kernel
theorem dX10_round_15 : decode cX10_round 15 = .ok (.bipush 30, 2) := by decide +kernel
theorem dX10_round_17 : decode cX10_round 17 = .ok (.if_icmp .gt 43, 3) := by decide +kernel
theorem dX10_round_20 : decode cX10_round 20 = .ok (.aload_n 0, 1) := by decide +kernel
theorem dX10_round_21 : decode cX10_round 21 = .ok (.iload_n 1, 1) := by decide +kernel
theorem dX10_round_22 : decode cX10_round 22 = .ok (.iload_n 2, 1) := by decide +kernel
theorem dX10_round_23 : decode cX10_round 23 = .ok (.iload_n 3, 1) := by decide +kernel
theorem dX10_round_24 : decode cX10_round 24 = .ok (.invokevirtual 475, 3) := by decide +kernel
theorem dX10_round_27 : decode cX10_round 27 = .ok (.ifCond .eq 27, 3) := by decide +kernel
theorem dX10_round_30 : decode cX10_round 30 = .ok (.aload_n 0, 1) := by decide +kernel
theorem dX10_round_31 : decode cX10_round 31 = .ok (.iload_n 1, 1) := by decide +kernel
theorem dX10_round_32 : decode cX10_round 32 = .ok (.iload_n 2, 1) := by decide +kernel
theorem dX10_round_33 : decode cX10_round 33 = .ok (.iload_n 3, 1) := by decide +kernel
theorem dX10_round_34 : decode cX10_round 34 = .ok (.iload_n 1, 1) := by decide +kernel
theorem dX10_round_35 : decode cX10_round 35 = .ok (.invokevirtual 403, 3) := by decide +kernel
theorem dX10_round_38 : decode cX10_round 38 = .ok (.ifCond .ne 16, 3) := by decide +kernel
theorem dX10_round_41 : decode cX10_round 41 = .ok (.aload_n 0, 1) := by decide +kernel
theorem dX10_round_42 : decode cX10_round 42 = .ok (.iload_n 1, 1) := by decide +kernel
theorem dX10_round_43 : decode cX10_round 43 = .ok (.iload_n 2, 1) := by decide +kernel
theorem dX10_round_44 : decode cX10_round 44 = .ok (.iload_n 3, 1) := by decide +kernel
theorem dX10_round_45 : decode cX10_round 45 = .ok (.iload_n 2, 1) := by decide +kernel
theorem dX10_round_46 : decode cX10_round 46 = .ok (.invokevirtual 403, 3) := by decide +kernel
theorem dX10_round_49 : decode cX10_round 49 = .ok (.ifCond .ne 5, 3) := by decide +kernel
theorem dX10_round_52 : decode cX10_round 52 = .ok (.iload_n 3, 1) := by decide +kernel
theorem dX10_round_53 : decode cX10_round 53 = .ok (.ireturn, 1) := by decide +kernel
theorem dX10_round_54 : decode cX10_round 54 = .ok (.iinc 3 1, 3) := by decide +kernel
theorem dX10_round_57 : decode cX10_round 57 = .ok (.goto (-43), 3) := by decide +kernel
theorem dX10_round_60 : decode cX10_round 60 = .ok (.iconst (-1), 1) := by decide +kernel
theorem dX10_round_61 : decode cX10_round 61 = .ok (.ireturn, 1) := by decide +kernel
theorem dX10_stillWorth_0 : decode cX10_stillWorth 0 = .ok (.aload_n 0, 1) := by decide +kernel
theorem dX10_stillWorth_1 : decode cX10_stillWorth 1 = .ok (.iload_n 1, 1) := by decide +kernel
theorem dX10_stillWorth_2 : decode cX10_stillWorth 2 = .ok (.invokevirtual 389, 3) := by decide +kernel
theorem dX10_stillWorth_5 : decode cX10_stillWorth 5 = .ok (.aload_n 0, 1) := by decide +kernel
theorem dX10_stillWorth_6 : decode cX10_stillWorth 6 = .ok (.invokevirtual 360, 3) := by decide +kernel
theorem dX10_stillWorth_9 : decode cX10_stillWorth 9 = .ok (.aload_n 0, 1) := by decide +kernel
theorem dX10_stillWorth_10 : decode cX10_stillWorth 10 = .ok (.iload_n 1, 1) := by decide +kernel
theorem dX10_stillWorth_11 : decode cX10_stillWorth 11 = .ok (.iconst 0, 1) := by decide +kernel
theorem dX10_stillWorth_12 : decode cX10_stillWorth 12 = .ok (.iload_n 2, 1) := by decide +kernel
theorem dX10_stillWorth_13 : decode cX10_stillWorth 13 = .ok (.invokevirtual 272, 3) := by decide +kernel
theorem dX10_stillWorth_16 : decode cX10_stillWorth 16 = .ok (.aload_n 0, 1) := by decide +kernel
theorem dX10_stillWorth_17 : decode cX10_stillWorth 17 = .ok (.iload_n 1, 1) := by decide +kernel
theorem dX10_stillWorth_18 : decode cX10_stillWorth 18 = .ok (.iconst 1, 1) := by decide +kernel
theorem dX10_stillWorth_19 : decode cX10_stillWorth 19 = .ok (.iload_n 3, 1) := by decide +kernel
theorem dX10_stillWorth_20 : decode cX10_stillWorth 20 = .ok (.invokevirtual 272, 3) := by decide +kernel
theorem dX10_stillWorth_23 : decode cX10_stillWorth 23 = .ok (.aload_n 0, 1) := by decide +kernel
theorem dX10_stillWorth_24 : decode cX10_stillWorth 24 = .ok (.iload_n 1, 1) := by decide +kernel
theorem dX10_stillWorth_25 : decode cX10_stillWorth 25 = .ok (.iconst 0, 1) := by decide +kernel
theorem dX10_stillWorth_26 : decode cX10_stillWorth 26 = .ok (.iconst 0, 1) := by decide +kernel
theorem dX10_stillWorth_27 : decode cX10_stillWorth 27 = .ok (.iconst 0, 1) := by decide +kernel
theorem dX10_stillWorth_28 : decode cX10_stillWorth 28 = .ok (.iconst (-1), 1) := by decide +kernel
theorem dX10_stillWorth_29 : decode cX10_stillWorth 29 = .ok (.invokevirtual 392, 3) := by decide +kernel
theorem dX10_stillWorth_32 : decode cX10_stillWorth 32 = .ok (.istore 4, 2) := by decide +kernel
theorem dX10_stillWorth_34 : decode cX10_stillWorth 34 = .ok (.aload_n 0, 1) := by decide +kernel
theorem dX10_stillWorth_35 : decode cX10_stillWorth 35 = .ok (.invokevirtual 367, 3) := by decide +kernel
theorem dX10_stillWorth_38 : decode cX10_stillWorth 38 = .ok (.iload 4, 2) := by decide +kernel
theorem dX10_stillWorth_40 : decode cX10_stillWorth 40 = .ok (.ireturn, 1) := by decide +kernel
theorem dX10_hidingWorth_0 : decode cX10_hidingWorth 0 = .ok (.aload_n 0, 1) := by decide +kernel
theorem dX10_hidingWorth_1 : decode cX10_hidingWorth 1 = .ok (.iload_n 1, 1) := by decide +kernel
theorem dX10_hidingWorth_2 : decode cX10_hidingWorth 2 = .ok (.aload_n 0, 1) := by decide +kernel
theorem dX10_hidingWorth_3 : decode cX10_hidingWorth 3 = .ok (.iload_n 1, 1) := by decide +kernel
theorem dX10_hidingWorth_4 : decode cX10_hidingWorth 4 = .ok (.iconst 0, 1) := by decide +kernel
theorem dX10_hidingWorth_5 : decode cX10_hidingWorth 5 = .ok (.invokevirtual 276, 3) := by decide +kernel
theorem dX10_hidingWorth_8 : decode cX10_hidingWorth 8 = .ok (.iload_n 2, 1) := by decide +kernel
theorem dX10_hidingWorth_9 : decode cX10_hidingWorth 9 = .ok (.invokevirtual 479, 3) := by decide +kernel
theorem dX10_hidingWorth_12 : decode cX10_hidingWorth 12 = .ok (.bipush 100, 2) := by decide +kernel
theorem dX10_hidingWorth_14 : decode cX10_hidingWorth 14 = .ok (.iload_n 3, 1) := by decide +kernel
theorem dX10_hidingWorth_15 : decode cX10_hidingWorth 15 = .ok (.isub, 1) := by decide +kernel
theorem dX10_hidingWorth_16 : decode cX10_hidingWorth 16 = .ok (.imul, 1) := by decide +kernel
theorem dX10_hidingWorth_17 : decode cX10_hidingWorth 17 = .ok (.aload_n 0, 1) := by decide +kernel
theorem dX10_hidingWorth_18 : decode cX10_hidingWorth 18 = .ok (.iload_n 1, 1) := by decide +kernel
theorem dX10_hidingWorth_19 : decode cX10_hidingWorth 19 = .ok (.aload_n 0, 1) := by decide +kernel
theorem dX10_hidingWorth_20 : decode cX10_hidingWorth 20 = .ok (.iload_n 1, 1) := by decide +kernel
theorem dX10_hidingWorth_21 : decode cX10_hidingWorth 21 = .ok (.iconst 0, 1) := by decide +kernel
theorem dX10_hidingWorth_22 : decode cX10_hidingWorth 22 = .ok (.invokevirtual 276, 3) := by decide +kernel
theorem dX10_hidingWorth_25 : decode cX10_hidingWorth 25 = .ok (.iload_n 2, 1) := by decide +kernel
theorem dX10_hidingWorth_26 : decode cX10_hidingWorth 26 = .ok (.isub, 1) := by decide +kernel
theorem dX10_hidingWorth_27 : decode cX10_hidingWorth 27 = .ok (.iconst 0, 1) := by decide +kernel
theorem dX10_hidingWorth_28 : decode cX10_hidingWorth 28 = .ok (.invokevirtual 479, 3) := by decide +kernel
theorem dX10_hidingWorth_31 : decode cX10_hidingWorth 31 = .ok (.iload_n 3, 1) := by decide +kernel
theorem dX10_hidingWorth_32 : decode cX10_hidingWorth 32 = .ok (.imul, 1) := by decide +kernel
theorem dX10_hidingWorth_33 : decode cX10_hidingWorth 33 = .ok (.iadd, 1) := by decide +kernel
theorem dX10_hidingWorth_34 : decode cX10_hidingWorth 34 = .ok (.bipush 100, 2) := by decide +kernel
theorem dX10_hidingWorth_36 : decode cX10_hidingWorth 36 = .ok (.idiv, 1) := by decide +kernel
theorem dX10_hidingWorth_37 : decode cX10_hidingWorth 37 = .ok (.ireturn, 1) := by decide +kernel
theorem dX10_canHide_0 : decode cX10_canHide 0 = .ok (.aload_n 0, 1) := by decide +kernel
theorem dX10_canHide_1 : decode cX10_canHide 1 = .ok (.iload_n 1, 1) := by decide +kernel
theorem dX10_canHide_2 : decode cX10_canHide 2 = .ok (.invokevirtual 106, 3) := by decide +kernel
theorem dX10_canHide_5 : decode cX10_canHide 5 = .ok (.ifCond .eq 23, 3) := by decide +kernel
theorem dX10_canHide_8 : decode cX10_canHide 8 = .ok (.iload_n 2, 1) := by decide +kernel
theorem dX10_canHide_9 : decode cX10_canHide 9 = .ok (.i2l, 1) := by decide +kernel
theorem dX10_canHide_10 : decode cX10_canHide 10 = .ok (.lconst 0, 1) := by decide +kernel
theorem dX10_canHide_11 : decode cX10_canHide 11 = .ok (.aload_n 0, 1) := by decide +kernel
theorem dX10_canHide_12 : decode cX10_canHide 12 = .ok (.iload_n 1, 1) := by decide +kernel
theorem dX10_canHide_13 : decode cX10_canHide 13 = .ok (.iconst 0, 1) := by decide +kernel
theorem dX10_canHide_14 : decode cX10_canHide 14 = .ok (.invokevirtual 276, 3) := by decide +kernel
theorem dX10_canHide_17 : decode cX10_canHide 17 = .ok (.i2l, 1) := by decide +kernel
theorem dX10_canHide_18 : decode cX10_canHide 18 = .ok (.invokestatic 98, 3) := by decide +kernel
theorem dX10_canHide_21 : decode cX10_canHide 21 = .ok (.ifCond .eq 7, 3) := by decide +kernel
theorem dX10_canHide_24 : decode cX10_canHide 24 = .ok (.iconst 1, 1) := by decide +kernel
theorem dX10_canHide_25 : decode cX10_canHide 25 = .ok (.goto 4, 3) := by decide +kernel
theorem dX10_canHide_28 : decode cX10_canHide 28 = .ok (.iconst 0, 1) := by decide +kernel
theorem dX10_canHide_29 : decode cX10_canHide 29 = .ok (.ireturn, 1) := by decide +kernel
theorem dX10_hides_0 : decode cX10_hides 0 = .ok (.aload_n 0, 1) := by decide +kernel
theorem dX10_hides_1 : decode cX10_hides 1 = .ok (.iload_n 1, 1) := by decide +kernel
theorem dX10_hides_2 : decode cX10_hides 2 = .ok (.iload_n 2, 1) := by decide +kernel
theorem dX10_hides_3 : decode cX10_hides 3 = .ok (.invokevirtual 482, 3) := by decide +kernel
theorem dX10_hides_6 : decode cX10_hides 6 = .ok (.ifCond .eq 19, 3) := by decide +kernel
theorem dX10_hides_9 : decode cX10_hides 9 = .ok (.aload_n 0, 1) := by decide +kernel
theorem dX10_hides_10 : decode cX10_hides 10 = .ok (.iload_n 1, 1) := by decide +kernel
theorem dX10_hides_11 : decode cX10_hides 11 = .ok (.iload_n 2, 1) := by decide +kernel
theorem dX10_hides_12 : decode cX10_hides 12 = .ok (.aload_n 0, 1) := by decide +kernel
theorem dX10_hides_13 : decode cX10_hides 13 = .ok (.getfield 13, 3) := by decide +kernel
theorem dX10_hides_16 : decode cX10_hides 16 = .ok (.bipush 6, 2) := by decide +kernel
theorem dX10_hides_18 : decode cX10_hides 18 = .ok (.iaload, 1) := by decide +kernel
theorem dX10_hides_19 : decode cX10_hides 19 = .ok (.invokevirtual 485, 3) := by decide +kernel
theorem dX10_hides_22 : decode cX10_hides 22 = .ok (.goto 6, 3) := by decide +kernel
theorem dX10_hides_25 : decode cX10_hides 25 = .ok (.ldc_w 388, 3) := by decide +kernel
theorem dX10_hides_28 : decode cX10_hides 28 = .ok (.ireturn, 1) := by decide +kernel
theorem dX10_edge_0 : decode cX10_edge 0 = .ok (.aload_n 0, 1) := by decide +kernel
theorem dX10_edge_1 : decode cX10_edge 1 = .ok (.iload_n 1, 1) := by decide +kernel
theorem dX10_edge_2 : decode cX10_edge 2 = .ok (.iload_n 2, 1) := by decide +kernel
theorem dX10_edge_3 : decode cX10_edge 3 = .ok (.invokevirtual 482, 3) := by decide +kernel
theorem dX10_edge_6 : decode cX10_edge 6 = .ok (.ifCond .ne 6, 3) := by decide +kernel
theorem dX10_edge_9 : decode cX10_edge 9 = .ok (.bipush (-2), 2) := by decide +kernel
theorem dX10_edge_11 : decode cX10_edge 11 = .ok (.ireturn, 1) := by decide +kernel
theorem dX10_edge_12 : decode cX10_edge 12 = .ok (.aload_n 0, 1) := by decide +kernel
theorem dX10_edge_13 : decode cX10_edge 13 = .ok (.iload_n 1, 1) := by decide +kernel
theorem dX10_edge_14 : decode cX10_edge 14 = .ok (.aload_n 0, 1) := by decide +kernel
theorem dX10_edge_15 : decode cX10_edge 15 = .ok (.iload_n 1, 1) := by decide +kernel
theorem dX10_edge_16 : decode cX10_edge 16 = .ok (.iconst 0, 1) := by decide +kernel
theorem dX10_edge_17 : decode cX10_edge 17 = .ok (.invokevirtual 276, 3) := by decide +kernel
theorem dX10_edge_20 : decode cX10_edge 20 = .ok (.iconst 0, 1) := by decide +kernel
theorem dX10_edge_21 : decode cX10_edge 21 = .ok (.invokevirtual 479, 3) := by decide +kernel
theorem dX10_edge_24 : decode cX10_edge 24 = .ok (.istore_n 3, 1) := by decide +kernel
theorem dX10_edge_25 : decode cX10_edge 25 = .ok (.iconst 0, 1) := by decide +kernel
theorem dX10_edge_26 : decode cX10_edge 26 = .ok (.istore 4, 2) := by decide +kernel
theorem dX10_edge_28 : decode cX10_edge 28 = .ok (.iload 4, 2) := by decide +kernel
theorem dX10_edge_30 : decode cX10_edge 30 = .ok (.bipush 100, 2) := by decide +kernel
theorem dX10_edge_32 : decode cX10_edge 32 = .ok (.if_icmp .gt 24, 3) := by decide +kernel
theorem dX10_edge_35 : decode cX10_edge 35 = .ok (.aload_n 0, 1) := by decide +kernel
theorem dX10_edge_36 : decode cX10_edge 36 = .ok (.iload_n 1, 1) := by decide +kernel
theorem dX10_edge_37 : decode cX10_edge 37 = .ok (.iload_n 2, 1) := by decide +kernel
theorem dX10_edge_38 : decode cX10_edge 38 = .ok (.iload 4, 2) := by decide +kernel
theorem dX10_edge_40 : decode cX10_edge 40 = .ok (.invokevirtual 485, 3) := by decide +kernel
theorem dX10_edge_43 : decode cX10_edge 43 = .ok (.iload_n 3, 1) := by decide +kernel
theorem dX10_edge_44 : decode cX10_edge 44 = .ok (.if_icmp .gt 6, 3) := by decide +kernel
theorem dX10_edge_47 : decode cX10_edge 47 = .ok (.iload 4, 2) := by decide +kernel
theorem dX10_edge_49 : decode cX10_edge 49 = .ok (.ireturn, 1) := by decide +kernel
theorem dX10_edge_50 : decode cX10_edge 50 = .ok (.iinc 4 1, 3) := by decide +kernel
theorem dX10_edge_53 : decode cX10_edge 53 = .ok (.goto (-25), 3) := by decide +kernel
theorem dX10_edge_56 : decode cX10_edge 56 = .ok (.iconst (-1), 1) := by decide +kernel
theorem dX10_edge_57 : decode cX10_edge 57 = .ok (.ireturn, 1) := by decide +kernel
theorem dX10_haveAsBefore_0 : decode cX10_haveAsBefore 0 = .ok (.iconst 0, 1) := by decide +kernel
theorem dX10_haveAsBefore_1 : decode cX10_haveAsBefore 1 = .ok (.istore_n 1, 1) := by decide +kernel
theorem dX10_haveAsBefore_2 : decode cX10_haveAsBefore 2 = .ok (.iload_n 1, 1) := by decide +kernel
theorem dX10_haveAsBefore_3 : decode cX10_haveAsBefore 3 = .ok (.aload_n 0, 1) := by decide +kernel
theorem dX10_haveAsBefore_4 : decode cX10_haveAsBefore 4 = .ok (.invokevirtual 295, 3) := by decide +kernel
theorem dX10_haveAsBefore_7 : decode cX10_haveAsBefore 7 = .ok (.if_icmp .ge 26, 3) := by decide +kernel
theorem dX10_haveAsBefore_10 : decode cX10_haveAsBefore 10 = .ok (.aload_n 0, 1) := by decide +kernel
theorem dX10_haveAsBefore_11 : decode cX10_haveAsBefore 11 = .ok (.iload_n 1, 1) := by decide +kernel
theorem dX10_haveAsBefore_12 : decode cX10_haveAsBefore 12 = .ok (.iconst 0, 1) := by decide +kernel
theorem dX10_haveAsBefore_13 : decode cX10_haveAsBefore 13 = .ok (.invokevirtual 276, 3) := by decide +kernel
theorem dX10_haveAsBefore_16 : decode cX10_haveAsBefore 16 = .ok (.aload_n 0, 1) := by decide +kernel
theorem dX10_haveAsBefore_17 : decode cX10_haveAsBefore 17 = .ok (.getfield 65, 3) := by decide +kernel
theorem dX10_haveAsBefore_20 : decode cX10_haveAsBefore 20 = .ok (.iload_n 1, 1) := by decide +kernel
theorem dX10_haveAsBefore_21 : decode cX10_haveAsBefore 21 = .ok (.iaload, 1) := by decide +kernel
theorem dX10_haveAsBefore_22 : decode cX10_haveAsBefore 22 = .ok (.if_icmp .eq 5, 3) := by decide +kernel
theorem dX10_haveAsBefore_25 : decode cX10_haveAsBefore 25 = .ok (.iconst 0, 1) := by decide +kernel
theorem dX10_haveAsBefore_26 : decode cX10_haveAsBefore 26 = .ok (.ireturn, 1) := by decide +kernel
theorem dX10_haveAsBefore_27 : decode cX10_haveAsBefore 27 = .ok (.iinc 1 1, 3) := by decide +kernel
theorem dX10_haveAsBefore_30 : decode cX10_haveAsBefore 30 = .ok (.goto (-28), 3) := by decide +kernel
theorem dX10_haveAsBefore_33 : decode cX10_haveAsBefore 33 = .ok (.iconst 1, 1) := by decide +kernel
theorem dX10_haveAsBefore_34 : decode cX10_haveAsBefore 34 = .ok (.ireturn, 1) := by decide +kernel
theorem dX10_areAlike_0 : decode cX10_areAlike 0 = .ok (.iconst 1, 1) := by decide +kernel
theorem dX10_areAlike_1 : decode cX10_areAlike 1 = .ok (.istore_n 1, 1) := by decide +kernel
theorem dX10_areAlike_2 : decode cX10_areAlike 2 = .ok (.iload_n 1, 1) := by decide +kernel
theorem dX10_areAlike_3 : decode cX10_areAlike 3 = .ok (.aload_n 0, 1) := by decide +kernel
theorem dX10_areAlike_4 : decode cX10_areAlike 4 = .ok (.invokevirtual 295, 3) := by decide +kernel
theorem dX10_areAlike_7 : decode cX10_areAlike 7 = .ok (.if_icmp .ge 26, 3) := by decide +kernel
theorem dX10_areAlike_10 : decode cX10_areAlike 10 = .ok (.aload_n 0, 1) := by decide +kernel
theorem dX10_areAlike_11 : decode cX10_areAlike 11 = .ok (.iload_n 1, 1) := by decide +kernel
theorem dX10_areAlike_12 : decode cX10_areAlike 12 = .ok (.iconst 0, 1) := by decide +kernel
theorem dX10_areAlike_13 : decode cX10_areAlike 13 = .ok (.invokevirtual 276, 3) := by decide +kernel
theorem dX10_areAlike_16 : decode cX10_areAlike 16 = .ok (.aload_n 0, 1) := by decide +kernel
theorem dX10_areAlike_17 : decode cX10_areAlike 17 = .ok (.iconst 0, 1) := by decide +kernel
theorem dX10_areAlike_18 : decode cX10_areAlike 18 = .ok (.iconst 0, 1) := by decide +kernel
theorem dX10_areAlike_19 : decode cX10_areAlike 19 = .ok (.invokevirtual 276, 3) := by decide +kernel
theorem dX10_areAlike_22 : decode cX10_areAlike 22 = .ok (.if_icmp .eq 5, 3) := by decide +kernel
theorem dX10_areAlike_25 : decode cX10_areAlike 25 = .ok (.iconst 0, 1) := by decide +kernel
theorem dX10_areAlike_26 : decode cX10_areAlike 26 = .ok (.ireturn, 1) := by decide +kernel
theorem dX10_areAlike_27 : decode cX10_areAlike 27 = .ok (.iinc 1 1, 3) := by decide +kernel
theorem dX10_areAlike_30 : decode cX10_areAlike 30 = .ok (.goto (-28), 3) := by decide +kernel
theorem dX10_areAlike_33 : decode cX10_areAlike 33 = .ok (.iconst 1, 1) := by decide +kernel
theorem dX10_areAlike_34 : decode cX10_areAlike 34 = .ok (.ireturn, 1) := by decide +kernel
theorem dX10_pays_0 : decode cX10_pays 0 = .ok (.aload_n 0, 1) := by decide +kernel
theorem dX10_pays_1 : decode cX10_pays 1 = .ok (.iload_n 1, 1) := by decide +kernel
theorem dX10_pays_2 : decode cX10_pays 2 = .ok (.invokevirtual 106, 3) := by decide +kernel
theorem dX10_pays_5 : decode cX10_pays 5 = .ok (.ifCond .eq 15, 3) := by decide +kernel
theorem dX10_pays_8 : decode cX10_pays 8 = .ok (.iload_n 2, 1) := by decide +kernel
theorem dX10_pays_9 : decode cX10_pays 9 = .ok (.i2l, 1) := by decide +kernel
theorem dX10_pays_10 : decode cX10_pays 10 = .ok (.lconst 1, 1) := by decide +kernel
theorem dX10_pays_11 : decode cX10_pays 11 = .ok (.ldc2_w 287, 3) := by decide +kernel
theorem dX10_pays_14 : decode cX10_pays 14 = .ok (.invokestatic 98, 3) := by decide +kernel
theorem dX10_pays_17 : decode cX10_pays 17 = .ok (.ifCond .ne 6, 3) := by decide +kernel
theorem dX10_pays_20 : decode cX10_pays 20 = .ok (.bipush (-2), 2) := by decide +kernel
theorem dX10_pays_22 : decode cX10_pays 22 = .ok (.ireturn, 1) := by decide +kernel
theorem dX10_pays_23 : decode cX10_pays 23 = .ok (.aload_n 0, 1) := by decide +kernel
theorem dX10_pays_24 : decode cX10_pays 24 = .ok (.getfield 68, 3) := by decide +kernel
theorem dX10_pays_27 : decode cX10_pays 27 = .ok (.iload_n 1, 1) := by decide +kernel
theorem dX10_pays_28 : decode cX10_pays 28 = .ok (.iaload, 1) := by decide +kernel
theorem dX10_pays_29 : decode cX10_pays 29 = .ok (.istore_n 3, 1) := by decide +kernel
theorem dX10_pays_30 : decode cX10_pays 30 = .ok (.aload_n 0, 1) := by decide +kernel
theorem dX10_pays_31 : decode cX10_pays 31 = .ok (.invokevirtual 360, 3) := by decide +kernel
theorem dX10_pays_34 : decode cX10_pays 34 = .ok (.aload_n 0, 1) := by decide +kernel
theorem dX10_pays_35 : decode cX10_pays 35 = .ok (.iload_n 2, 1) := by decide +kernel
theorem dX10_pays_36 : decode cX10_pays 36 = .ok (.invokevirtual 442, 3) := by decide +kernel
theorem dX10_pays_39 : decode cX10_pays 39 = .ok (.pop, 1) := by decide +kernel
theorem dX10_pays_40 : decode cX10_pays 40 = .ok (.aload_n 0, 1) := by decide +kernel
theorem dX10_pays_41 : decode cX10_pays 41 = .ok (.invokevirtual 367, 3) := by decide +kernel
theorem dX10_pays_44 : decode cX10_pays 44 = .ok (.aload_n 0, 1) := by decide +kernel
theorem dX10_pays_45 : decode cX10_pays 45 = .ok (.getfield 68, 3) := by decide +kernel
theorem dX10_pays_48 : decode cX10_pays 48 = .ok (.iload_n 1, 1) := by decide +kernel
theorem dX10_pays_49 : decode cX10_pays 49 = .ok (.iaload, 1) := by decide +kernel
theorem dX10_pays_50 : decode cX10_pays 50 = .ok (.iload_n 3, 1) := by decide +kernel
theorem dX10_pays_51 : decode cX10_pays 51 = .ok (.isub, 1) := by decide +kernel
theorem dX10_pays_52 : decode cX10_pays 52 = .ok (.ireturn, 1) := by decide +kernel
theorem dX10_quiet_0 : decode cX10_quiet 0 = .ok (.aload_n 0, 1) := by decide +kernel
theorem dX10_quiet_1 : decode cX10_quiet 1 = .ok (.iload_n 1, 1) := by decide +kernel
theorem dX10_quiet_2 : decode cX10_quiet 2 = .ok (.invokevirtual 439, 3) := by decide +kernel
theorem dX10_quiet_5 : decode cX10_quiet 5 = .ok (.ifCond .eq 13, 3) := by decide +kernel
theorem dX10_quiet_8 : decode cX10_quiet 8 = .ok (.iload_n 2, 1) := by decide +kernel
theorem dX10_quiet_9 : decode cX10_quiet 9 = .ok (.i2l, 1) := by decide +kernel
theorem dX10_quiet_10 : decode cX10_quiet 10 = .ok (.lconst 0, 1) := by decide +kernel
theorem dX10_quiet_11 : decode cX10_quiet 11 = .ok (.lconst 1, 1) := by decide +kernel
theorem dX10_quiet_12 : decode cX10_quiet 12 = .ok (.invokestatic 98, 3) := by decide +kernel
theorem dX10_quiet_15 : decode cX10_quiet 15 = .ok (.ifCond .ne 6, 3) := by decide +kernel
theorem dX10_quiet_18 : decode cX10_quiet 18 = .ok (.bipush (-2), 2) := by decide +kernel
theorem dX10_quiet_20 : decode cX10_quiet 20 = .ok (.ireturn, 1) := by decide +kernel
theorem dX10_quiet_21 : decode cX10_quiet 21 = .ok (.aload_n 0, 1) := by decide +kernel
theorem dX10_quiet_22 : decode cX10_quiet 22 = .ok (.invokevirtual 360, 3) := by decide +kernel
theorem dX10_quiet_25 : decode cX10_quiet 25 = .ok (.iconst 0, 1) := by decide +kernel
theorem dX10_quiet_26 : decode cX10_quiet 26 = .ok (.istore_n 3, 1) := by decide +kernel
theorem dX10_quiet_27 : decode cX10_quiet 27 = .ok (.iconst 0, 1) := by decide +kernel
theorem dX10_quiet_28 : decode cX10_quiet 28 = .ok (.istore 4, 2) := by decide +kernel
theorem dX10_quiet_30 : decode cX10_quiet 30 = .ok (.iconst 1, 1) := by decide +kernel
theorem dX10_quiet_31 : decode cX10_quiet 31 = .ok (.istore 5, 2) := by decide +kernel
theorem dX10_quiet_33 : decode cX10_quiet 33 = .ok (.iload 5, 2) := by decide +kernel
theorem dX10_quiet_35 : decode cX10_quiet 35 = .ok (.iload_n 1, 1) := by decide +kernel
theorem dX10_quiet_36 : decode cX10_quiet 36 = .ok (.if_icmp .gt 36, 3) := by decide +kernel
theorem dX10_quiet_39 : decode cX10_quiet 39 = .ok (.aload_n 0, 1) := by decide +kernel
theorem dX10_quiet_40 : decode cX10_quiet 40 = .ok (.invokevirtual 436, 3) := by decide +kernel
theorem dX10_quiet_43 : decode cX10_quiet 43 = .ok (.ifCond .le 6, 3) := by decide +kernel
theorem dX10_quiet_46 : decode cX10_quiet 46 = .ok (.goto 20, 3) := by decide +kernel
theorem dX10_quiet_49 : decode cX10_quiet 49 = .ok (.iinc 3 1, 3) := by decide +kernel
theorem dX10_quiet_52 : decode cX10_quiet 52 = .ok (.iload 4, 2) := by decide +kernel
theorem dX10_quiet_54 : decode cX10_quiet 54 = .ok (.ifCond .ne 8, 3) := by decide +kernel
theorem dX10_quiet_57 : decode cX10_quiet 57 = .ok (.iload 5, 2) := by decide +kernel
theorem dX10_quiet_59 : decode cX10_quiet 59 = .ok (.goto 5, 3) := by decide +kernel
theorem dX10_quiet_62 : decode cX10_quiet 62 = .ok (.iload 4, 2) := by decide +kernel
theorem dX10_quiet_64 : decode cX10_quiet 64 = .ok (.istore 4, 2) := by decide +kernel
theorem dX10_quiet_66 : decode cX10_quiet 66 = .ok (.iinc 5 1, 3) := by decide +kernel
theorem dX10_quiet_69 : decode cX10_quiet 69 = .ok (.goto (-36), 3) := by decide +kernel
theorem dX10_quiet_72 : decode cX10_quiet 72 = .ok (.aload_n 0, 1) := by decide +kernel
theorem dX10_quiet_73 : decode cX10_quiet 73 = .ok (.invokevirtual 367, 3) := by decide +kernel
theorem dX10_quiet_76 : decode cX10_quiet 76 = .ok (.iload_n 2, 1) := by decide +kernel
theorem dX10_quiet_77 : decode cX10_quiet 77 = .ok (.ifCond .ne 7, 3) := by decide +kernel
theorem dX10_quiet_80 : decode cX10_quiet 80 = .ok (.iload_n 3, 1) := by decide +kernel
theorem dX10_quiet_81 : decode cX10_quiet 81 = .ok (.goto 5, 3) := by decide +kernel
theorem dX10_quiet_84 : decode cX10_quiet 84 = .ok (.iload 4, 2) := by decide +kernel
theorem dX10_quiet_86 : decode cX10_quiet 86 = .ok (.ireturn, 1) := by decide +kernel
theorem dX10_again_0 : decode cX10_again 0 = .ok (.aload_n 0, 1) := by decide +kernel
theorem dX10_again_1 : decode cX10_again 1 = .ok (.iload_n 1, 1) := by decide +kernel
theorem dX10_again_2 : decode cX10_again 2 = .ok (.invokevirtual 439, 3) := by decide +kernel
theorem dX10_again_5 : decode cX10_again 5 = .ok (.ifCond .ne 6, 3) := by decide +kernel
theorem dX10_again_8 : decode cX10_again 8 = .ok (.bipush (-2), 2) := by decide +kernel
theorem dX10_again_10 : decode cX10_again 10 = .ok (.ireturn, 1) := by decide +kernel
theorem dX10_again_11 : decode cX10_again 11 = .ok (.iconst 0, 1) := by decide +kernel
theorem dX10_again_12 : decode cX10_again 12 = .ok (.istore_n 2, 1) := by decide +kernel
theorem dX10_again_13 : decode cX10_again 13 = .ok (.iload_n 2, 1) := by decide +kernel
theorem dX10_again_14 : decode cX10_again 14 = .ok (.aload_n 0, 1) := by decide +kernel
theorem dX10_again_15 : decode cX10_again 15 = .ok (.invokevirtual 295, 3) := by decide +kernel
theorem dX10_again_18 : decode cX10_again 18 = .ok (.if_icmp .ge 21, 3) := by decide +kernel
theorem dX10_again_21 : decode cX10_again 21 = .ok (.aload_n 0, 1) := by decide +kernel
theorem dX10_again_22 : decode cX10_again 22 = .ok (.getfield 65, 3) := by decide +kernel
theorem dX10_again_25 : decode cX10_again 25 = .ok (.iload_n 2, 1) := by decide +kernel
theorem dX10_again_26 : decode cX10_again 26 = .ok (.aload_n 0, 1) := by decide +kernel
theorem dX10_again_27 : decode cX10_again 27 = .ok (.iload_n 2, 1) := by decide +kernel
theorem dX10_again_28 : decode cX10_again 28 = .ok (.iconst 0, 1) := by decide +kernel
theorem dX10_again_29 : decode cX10_again 29 = .ok (.invokevirtual 276, 3) := by decide +kernel
theorem dX10_again_32 : decode cX10_again 32 = .ok (.iastore, 1) := by decide +kernel
theorem dX10_again_33 : decode cX10_again 33 = .ok (.iinc 2 1, 3) := by decide +kernel
theorem dX10_again_36 : decode cX10_again 36 = .ok (.goto (-23), 3) := by decide +kernel
theorem dX10_again_39 : decode cX10_again 39 = .ok (.aload_n 0, 1) := by decide +kernel
theorem dX10_again_40 : decode cX10_again 40 = .ok (.invokevirtual 360, 3) := by decide +kernel
theorem dX10_again_43 : decode cX10_again 43 = .ok (.iconst (-1), 1) := by decide +kernel
theorem dX10_again_44 : decode cX10_again 44 = .ok (.istore_n 2, 1) := by decide +kernel
theorem dX10_again_45 : decode cX10_again 45 = .ok (.iconst 1, 1) := by decide +kernel
theorem dX10_again_46 : decode cX10_again 46 = .ok (.istore_n 3, 1) := by decide +kernel
theorem dX10_again_47 : decode cX10_again 47 = .ok (.iload_n 3, 1) := by decide +kernel
theorem dX10_again_48 : decode cX10_again 48 = .ok (.iload_n 1, 1) := by decide +kernel
theorem dX10_again_49 : decode cX10_again 49 = .ok (.if_icmp .gt 33, 3) := by decide +kernel
theorem dX10_again_52 : decode cX10_again 52 = .ok (.iload_n 2, 1) := by decide +kernel
theorem dX10_again_53 : decode cX10_again 53 = .ok (.iconst (-1), 1) := by decide +kernel
theorem dX10_again_54 : decode cX10_again 54 = .ok (.if_icmp .ne 28, 3) := by decide +kernel
theorem dX10_again_57 : decode cX10_again 57 = .ok (.aload_n 0, 1) := by decide +kernel
theorem dX10_again_58 : decode cX10_again 58 = .ok (.invokevirtual 436, 3) := by decide +kernel
theorem dX10_again_61 : decode cX10_again 61 = .ok (.istore 4, 2) := by decide +kernel
theorem dX10_again_63 : decode cX10_again 63 = .ok (.aload_n 0, 1) := by decide +kernel
theorem dX10_again_64 : decode cX10_again 64 = .ok (.invokevirtual 488, 3) := by decide +kernel
theorem dX10_again_67 : decode cX10_again 67 = .ok (.ifCond .eq 7, 3) := by decide +kernel
theorem dX10_again_70 : decode cX10_again 70 = .ok (.iload_n 3, 1) := by decide +kernel
theorem dX10_again_71 : decode cX10_again 71 = .ok (.goto 4, 3) := by decide +kernel
theorem dX10_again_74 : decode cX10_again 74 = .ok (.iconst (-1), 1) := by decide +kernel
theorem dX10_again_75 : decode cX10_again 75 = .ok (.istore_n 2, 1) := by decide +kernel
theorem dX10_again_76 : decode cX10_again 76 = .ok (.iinc 3 1, 3) := by decide +kernel
theorem dX10_again_79 : decode cX10_again 79 = .ok (.goto (-32), 3) := by decide +kernel
theorem dX10_again_82 : decode cX10_again 82 = .ok (.aload_n 0, 1) := by decide +kernel
theorem dX10_again_83 : decode cX10_again 83 = .ok (.invokevirtual 367, 3) := by decide +kernel
theorem dX10_again_86 : decode cX10_again 86 = .ok (.iload_n 2, 1) := by decide +kernel
theorem dX10_again_87 : decode cX10_again 87 = .ok (.ireturn, 1) := by decide +kernel
theorem dX10_alike_0 : decode cX10_alike 0 = .ok (.aload_n 0, 1) := by decide +kernel
theorem dX10_alike_1 : decode cX10_alike 1 = .ok (.iload_n 1, 1) := by decide +kernel
theorem dX10_alike_2 : decode cX10_alike 2 = .ok (.invokevirtual 439, 3) := by decide +kernel
theorem dX10_alike_5 : decode cX10_alike 5 = .ok (.ifCond .ne 6, 3) := by decide +kernel
theorem dX10_alike_8 : decode cX10_alike 8 = .ok (.bipush (-2), 2) := by decide +kernel
theorem dX10_alike_10 : decode cX10_alike 10 = .ok (.ireturn, 1) := by decide +kernel
theorem dX10_alike_11 : decode cX10_alike 11 = .ok (.aload_n 0, 1) := by decide +kernel
theorem dX10_alike_12 : decode cX10_alike 12 = .ok (.invokevirtual 360, 3) := by decide +kernel
theorem dX10_alike_15 : decode cX10_alike 15 = .ok (.iconst (-1), 1) := by decide +kernel
theorem dX10_alike_16 : decode cX10_alike 16 = .ok (.istore_n 2, 1) := by decide +kernel
theorem dX10_alike_17 : decode cX10_alike 17 = .ok (.iconst 1, 1) := by decide +kernel
theorem dX10_alike_18 : decode cX10_alike 18 = .ok (.istore_n 3, 1) := by decide +kernel
theorem dX10_alike_19 : decode cX10_alike 19 = .ok (.iload_n 3, 1) := by decide +kernel
theorem dX10_alike_20 : decode cX10_alike 20 = .ok (.iload_n 1, 1) := by decide +kernel
theorem dX10_alike_21 : decode cX10_alike 21 = .ok (.if_icmp .gt 33, 3) := by decide +kernel
theorem dX10_alike_24 : decode cX10_alike 24 = .ok (.iload_n 2, 1) := by decide +kernel
theorem dX10_alike_25 : decode cX10_alike 25 = .ok (.iconst (-1), 1) := by decide +kernel
theorem dX10_alike_26 : decode cX10_alike 26 = .ok (.if_icmp .ne 28, 3) := by decide +kernel
theorem dX10_alike_29 : decode cX10_alike 29 = .ok (.aload_n 0, 1) := by decide +kernel
theorem dX10_alike_30 : decode cX10_alike 30 = .ok (.invokevirtual 436, 3) := by decide +kernel
theorem dX10_alike_33 : decode cX10_alike 33 = .ok (.istore 4, 2) := by decide +kernel
theorem dX10_alike_35 : decode cX10_alike 35 = .ok (.aload_n 0, 1) := by decide +kernel
theorem dX10_alike_36 : decode cX10_alike 36 = .ok (.invokevirtual 491, 3) := by decide +kernel
theorem dX10_alike_39 : decode cX10_alike 39 = .ok (.ifCond .eq 7, 3) := by decide +kernel
theorem dX10_alike_42 : decode cX10_alike 42 = .ok (.iload_n 3, 1) := by decide +kernel
theorem dX10_alike_43 : decode cX10_alike 43 = .ok (.goto 4, 3) := by decide +kernel
theorem dX10_alike_46 : decode cX10_alike 46 = .ok (.iconst (-1), 1) := by decide +kernel
theorem dX10_alike_47 : decode cX10_alike 47 = .ok (.istore_n 2, 1) := by decide +kernel
theorem dX10_alike_48 : decode cX10_alike 48 = .ok (.iinc 3 1, 3) := by decide +kernel
theorem dX10_alike_51 : decode cX10_alike 51 = .ok (.goto (-32), 3) := by decide +kernel
theorem dX10_alike_54 : decode cX10_alike 54 = .ok (.aload_n 0, 1) := by decide +kernel
theorem dX10_alike_55 : decode cX10_alike 55 = .ok (.invokevirtual 367, 3) := by decide +kernel
theorem dX10_alike_58 : decode cX10_alike 58 = .ok (.iload_n 2, 1) := by decide +kernel
theorem dX10_alike_59 : decode cX10_alike 59 = .ok (.ireturn, 1) := by decide +kernel
theorem dX10_goodBy_0 : decode cX10_goodBy 0 = .ok (.aload_n 0, 1) := by decide +kernel
theorem dX10_goodBy_1 : decode cX10_goodBy 1 = .ok (.iload_n 1, 1) := by decide +kernel
theorem dX10_goodBy_2 : decode cX10_goodBy 2 = .ok (.iconst 2, 1) := by decide +kernel
theorem dX10_goodBy_3 : decode cX10_goodBy 3 = .ok (.invokevirtual 276, 3) := by decide +kernel
theorem dX10_goodBy_6 : decode cX10_goodBy 6 = .ok (.istore_n 3, 1) := by decide +kernel
theorem dX10_goodBy_7 : decode cX10_goodBy 7 = .ok (.aload_n 0, 1) := by decide +kernel
theorem dX10_goodBy_8 : decode cX10_goodBy 8 = .ok (.iload_n 1, 1) := by decide +kernel
theorem dX10_goodBy_9 : decode cX10_goodBy 9 = .ok (.iconst 3, 1) := by decide +kernel
theorem dX10_goodBy_10 : decode cX10_goodBy 10 = .ok (.invokevirtual 276, 3) := by decide +kernel
theorem dX10_goodBy_13 : decode cX10_goodBy 13 = .ok (.istore 4, 2) := by decide +kernel
theorem dX10_goodBy_15 : decode cX10_goodBy 15 = .ok (.aload_n 0, 1) := by decide +kernel
theorem dX10_goodBy_16 : decode cX10_goodBy 16 = .ok (.iload_n 1, 1) := by decide +kernel
theorem dX10_goodBy_17 : decode cX10_goodBy 17 = .ok (.iconst 4, 1) := by decide +kernel
theorem dX10_goodBy_18 : decode cX10_goodBy 18 = .ok (.invokevirtual 276, 3) := by decide +kernel
theorem dX10_goodBy_21 : decode cX10_goodBy 21 = .ok (.istore 5, 2) := by decide +kernel
theorem dX10_goodBy_23 : decode cX10_goodBy 23 = .ok (.aload_n 0, 1) := by decide +kernel
theorem dX10_goodBy_24 : decode cX10_goodBy 24 = .ok (.invokevirtual 360, 3) := by decide +kernel
theorem dX10_goodBy_27 : decode cX10_goodBy 27 = .ok (.iconst 0, 1) := by decide +kernel
theorem dX10_goodBy_28 : decode cX10_goodBy 28 = .ok (.istore 6, 2) := by decide +kernel
theorem dX10_goodBy_30 : decode cX10_goodBy 30 = .ok (.iload 6, 2) := by decide +kernel
theorem dX10_goodBy_32 : decode cX10_goodBy 32 = .ok (.iload_n 2, 1) := by decide +kernel
theorem dX10_goodBy_33 : decode cX10_goodBy 33 = .ok (.if_icmp .ge 66, 3) := by decide +kernel
theorem dX10_goodBy_36 : decode cX10_goodBy 36 = .ok (.aload_n 0, 1) := by decide +kernel
theorem dX10_goodBy_37 : decode cX10_goodBy 37 = .ok (.iload_n 1, 1) := by decide +kernel
theorem dX10_goodBy_38 : decode cX10_goodBy 38 = .ok (.iconst 2, 1) := by decide +kernel
theorem dX10_goodBy_39 : decode cX10_goodBy 39 = .ok (.aload_n 0, 1) := by decide +kernel
theorem dX10_goodBy_40 : decode cX10_goodBy 40 = .ok (.getfield 71, 3) := by decide +kernel
theorem dX10_goodBy_43 : decode cX10_goodBy 43 = .ok (.iload 6, 2) := by decide +kernel
theorem dX10_goodBy_45 : decode cX10_goodBy 45 = .ok (.iaload, 1) := by decide +kernel
theorem dX10_goodBy_46 : decode cX10_goodBy 46 = .ok (.invokevirtual 272, 3) := by decide +kernel
theorem dX10_goodBy_49 : decode cX10_goodBy 49 = .ok (.aload_n 0, 1) := by decide +kernel
theorem dX10_goodBy_50 : decode cX10_goodBy 50 = .ok (.iload_n 1, 1) := by decide +kernel
theorem dX10_goodBy_51 : decode cX10_goodBy 51 = .ok (.iconst 3, 1) := by decide +kernel
theorem dX10_goodBy_52 : decode cX10_goodBy 52 = .ok (.aload_n 0, 1) := by decide +kernel
theorem dX10_goodBy_53 : decode cX10_goodBy 53 = .ok (.getfield 71, 3) := by decide +kernel
theorem dX10_goodBy_56 : decode cX10_goodBy 56 = .ok (.iload 6, 2) := by decide +kernel
theorem dX10_goodBy_58 : decode cX10_goodBy 58 = .ok (.iaload, 1) := by decide +kernel
theorem dX10_goodBy_59 : decode cX10_goodBy 59 = .ok (.iload_n 3, 1) := by decide +kernel
theorem dX10_goodBy_60 : decode cX10_goodBy 60 = .ok (.if_icmp .ne 8, 3) := by decide +kernel
theorem dX10_goodBy_63 : decode cX10_goodBy 63 = .ok (.iload 4, 2) := by decide +kernel
theorem dX10_goodBy_65 : decode cX10_goodBy 65 = .ok (.goto 19, 3) := by decide +kernel
theorem dX10_goodBy_68 : decode cX10_goodBy 68 = .ok (.aload_n 0, 1) := by decide +kernel
theorem dX10_goodBy_69 : decode cX10_goodBy 69 = .ok (.getfield 71, 3) := by decide +kernel
theorem dX10_goodBy_72 : decode cX10_goodBy 72 = .ok (.iload 6, 2) := by decide +kernel
theorem dX10_goodBy_74 : decode cX10_goodBy 74 = .ok (.iaload, 1) := by decide +kernel
theorem dX10_goodBy_75 : decode cX10_goodBy 75 = .ok (.iconst 3, 1) := by decide +kernel
theorem dX10_goodBy_76 : decode cX10_goodBy 76 = .ok (.if_icmp .ne 7, 3) := by decide +kernel
theorem dX10_goodBy_79 : decode cX10_goodBy 79 = .ok (.iconst 3, 1) := by decide +kernel
theorem dX10_goodBy_80 : decode cX10_goodBy 80 = .ok (.goto 4, 3) := by decide +kernel
theorem dX10_goodBy_83 : decode cX10_goodBy 83 = .ok (.iconst 0, 1) := by decide +kernel
theorem dX10_goodBy_84 : decode cX10_goodBy 84 = .ok (.invokevirtual 272, 3) := by decide +kernel
theorem dX10_goodBy_87 : decode cX10_goodBy 87 = .ok (.aload_n 0, 1) := by decide +kernel
theorem dX10_goodBy_88 : decode cX10_goodBy 88 = .ok (.invokevirtual 436, 3) := by decide +kernel
theorem dX10_goodBy_91 : decode cX10_goodBy 91 = .ok (.istore 7, 2) := by decide +kernel
theorem dX10_goodBy_93 : decode cX10_goodBy 93 = .ok (.iinc 6 1, 3) := by decide +kernel
theorem dX10_goodBy_96 : decode cX10_goodBy 96 = .ok (.goto (-66), 3) := by decide +kernel
theorem dX10_goodBy_99 : decode cX10_goodBy 99 = .ok (.aload_n 0, 1) := by decide +kernel
theorem dX10_goodBy_100 : decode cX10_goodBy 100 = .ok (.iload_n 1, 1) := by decide +kernel
theorem dX10_goodBy_101 : decode cX10_goodBy 101 = .ok (.iconst 4, 1) := by decide +kernel
theorem dX10_goodBy_102 : decode cX10_goodBy 102 = .ok (.invokevirtual 276, 3) := by decide +kernel
theorem dX10_goodBy_105 : decode cX10_goodBy 105 = .ok (.istore 6, 2) := by decide +kernel
theorem dX10_goodBy_107 : decode cX10_goodBy 107 = .ok (.aload_n 0, 1) := by decide +kernel
theorem dX10_goodBy_108 : decode cX10_goodBy 108 = .ok (.invokevirtual 367, 3) := by decide +kernel
theorem dX10_goodBy_111 : decode cX10_goodBy 111 = .ok (.iload 6, 2) := by decide +kernel
theorem dX10_goodBy_113 : decode cX10_goodBy 113 = .ok (.iload 5, 2) := by decide +kernel
theorem dX10_goodBy_115 : decode cX10_goodBy 115 = .ok (.isub, 1) := by decide +kernel
theorem dX10_goodBy_116 : decode cX10_goodBy 116 = .ok (.ireturn, 1) := by decide +kernel
theorem dX10_follows_0 : decode cX10_follows 0 = .ok (.aload_n 0, 1) := by decide +kernel
theorem dX10_follows_1 : decode cX10_follows 1 = .ok (.iload_n 1, 1) := by decide +kernel
theorem dX10_follows_2 : decode cX10_follows 2 = .ok (.invokevirtual 106, 3) := by decide +kernel
theorem dX10_follows_5 : decode cX10_follows 5 = .ok (.ifCond .eq 37, 3) := by decide +kernel
theorem dX10_follows_8 : decode cX10_follows 8 = .ok (.iload_n 2, 1) := by decide +kernel
theorem dX10_follows_9 : decode cX10_follows 9 = .ok (.invokestatic 357, 3) := by decide +kernel
theorem dX10_follows_12 : decode cX10_follows 12 = .ok (.ifCond .eq 30, 3) := by decide +kernel
theorem dX10_follows_15 : decode cX10_follows 15 = .ok (.aload_n 0, 1) := by decide +kernel
theorem dX10_follows_16 : decode cX10_follows 16 = .ok (.getfield 80, 3) := by decide +kernel
theorem dX10_follows_19 : decode cX10_follows 19 = .ok (.iload_n 2, 1) := by decide +kernel
theorem dX10_follows_20 : decode cX10_follows 20 = .ok (.iaload, 1) := by decide +kernel
theorem dX10_follows_21 : decode cX10_follows 21 = .ok (.iconst (-1), 1) := by decide +kernel
theorem dX10_follows_22 : decode cX10_follows 22 = .ok (.if_icmp .eq 20, 3) := by decide +kernel
theorem dX10_follows_25 : decode cX10_follows 25 = .ok (.aload_n 0, 1) := by decide +kernel
theorem dX10_follows_26 : decode cX10_follows 26 = .ok (.getfield 80, 3) := by decide +kernel
theorem dX10_follows_29 : decode cX10_follows 29 = .ok (.iload_n 2, 1) := by decide +kernel
theorem dX10_follows_30 : decode cX10_follows 30 = .ok (.iaload, 1) := by decide +kernel
theorem dX10_follows_31 : decode cX10_follows 31 = .ok (.i2l, 1) := by decide +kernel
theorem dX10_follows_32 : decode cX10_follows 32 = .ok (.lconst 1, 1) := by decide +kernel
theorem dX10_follows_33 : decode cX10_follows 33 = .ok (.ldc2_w 287, 3) := by decide +kernel
theorem dX10_follows_36 : decode cX10_follows 36 = .ok (.invokestatic 98, 3) := by decide +kernel
theorem dX10_follows_39 : decode cX10_follows 39 = .ok (.ifCond .ne 7, 3) := by decide +kernel
theorem dX10_follows_42 : decode cX10_follows 42 = .ok (.ldc_w 388, 3) := by decide +kernel
