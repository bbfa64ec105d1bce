theorem dX10_lend_40 : decode cX10_lend 40 = .ok (.iload_n 1, 1) := by decide +kernel
theorem dX10_lend_41 : decode cX10_lend 41 = .ok (.iload_n 2, 1) := by decide +kernel
theorem dX10_lend_42 : decode cX10_lend 42 = .ok (.iload_n 3, 1) := by decide +kernel
theorem dX10_lend_43 : decode cX10_lend 43 = .ok (.invokevirtual 475, 3) := by decide +kernel
theorem dX10_lend_46 : decode cX10_lend 46 = .ok (.ifCond .ne 6, 3) := by decide +kernel
theorem dX10_lend_49 : decode cX10_lend 49 = .ok (.bipush (-5), 2) := by decide +kernel
theorem dX10_lend_51 : decode cX10_lend 51 = .ok (.ireturn, 1) := by decide +kernel
theorem dX10_lend_52 : decode cX10_lend 52 = .ok (.aload_n 0, 1) := by decide +kernel
theorem dX10_lend_53 : decode cX10_lend 53 = .ok (.iload_n 1, 1) := by decide +kernel
theorem dX10_lend_54 : decode cX10_lend 54 = .ok (.aload_n 0, 1) := by decide +kernel
theorem dX10_lend_55 : decode cX10_lend 55 = .ok (.iload_n 1, 1) := by decide +kernel
theorem dX10_lend_56 : decode cX10_lend 56 = .ok (.iconst 0, 1) := by decide +kernel
theorem dX10_lend_57 : decode cX10_lend 57 = .ok (.invokevirtual 276, 3) := by decide +kernel
theorem dX10_lend_60 : decode cX10_lend 60 = .ok (.iload_n 3, 1) := by decide +kernel
theorem dX10_lend_61 : decode cX10_lend 61 = .ok (.isub, 1) := by decide +kernel
theorem dX10_lend_62 : decode cX10_lend 62 = .ok (.invokevirtual 284, 3) := by decide +kernel
theorem dX10_lend_65 : decode cX10_lend 65 = .ok (.aload_n 0, 1) := by decide +kernel
theorem dX10_lend_66 : decode cX10_lend 66 = .ok (.iload_n 2, 1) := by decide +kernel
theorem dX10_lend_67 : decode cX10_lend 67 = .ok (.aload_n 0, 1) := by decide +kernel
theorem dX10_lend_68 : decode cX10_lend 68 = .ok (.iload_n 2, 1) := by decide +kernel
theorem dX10_lend_69 : decode cX10_lend 69 = .ok (.iconst 0, 1) := by decide +kernel
theorem dX10_lend_70 : decode cX10_lend 70 = .ok (.invokevirtual 276, 3) := by decide +kernel
theorem dX10_lend_73 : decode cX10_lend 73 = .ok (.iload_n 3, 1) := by decide +kernel
theorem dX10_lend_74 : decode cX10_lend 74 = .ok (.iadd, 1) := by decide +kernel
theorem dX10_lend_75 : decode cX10_lend 75 = .ok (.invokevirtual 284, 3) := by decide +kernel
theorem dX10_lend_78 : decode cX10_lend 78 = .ok (.sipush 160, 3) := by decide +kernel
theorem dX10_lend_81 : decode cX10_lend 81 = .ok (.iconst 3, 1) := by decide +kernel
theorem dX10_lend_82 : decode cX10_lend 82 = .ok (.aload_n 0, 1) := by decide +kernel
theorem dX10_lend_83 : decode cX10_lend 83 = .ok (.getfield 13, 3) := by decide +kernel
theorem dX10_lend_86 : decode cX10_lend 86 = .ok (.bipush 9, 2) := by decide +kernel
theorem dX10_lend_88 : decode cX10_lend 88 = .ok (.iaload, 1) := by decide +kernel
theorem dX10_lend_89 : decode cX10_lend 89 = .ok (.imul, 1) := by decide +kernel
theorem dX10_lend_90 : decode cX10_lend 90 = .ok (.iadd, 1) := by decide +kernel
theorem dX10_lend_91 : decode cX10_lend 91 = .ok (.istore 4, 2) := by decide +kernel
theorem dX10_lend_93 : decode cX10_lend 93 = .ok (.aload_n 0, 1) := by decide +kernel
theorem dX10_lend_94 : decode cX10_lend 94 = .ok (.getfield 13, 3) := by decide +kernel
theorem dX10_lend_97 : decode cX10_lend 97 = .ok (.iload 4, 2) := by decide +kernel
theorem dX10_lend_99 : decode cX10_lend 99 = .ok (.iload_n 1, 1) := by decide +kernel
theorem dX10_lend_100 : decode cX10_lend 100 = .ok (.iastore, 1) := by decide +kernel
theorem dX10_lend_101 : decode cX10_lend 101 = .ok (.aload_n 0, 1) := by decide +kernel
theorem dX10_lend_102 : decode cX10_lend 102 = .ok (.getfield 13, 3) := by decide +kernel
theorem dX10_lend_105 : decode cX10_lend 105 = .ok (.iload 4, 2) := by decide +kernel
theorem dX10_lend_107 : decode cX10_lend 107 = .ok (.iconst 1, 1) := by decide +kernel
theorem dX10_lend_108 : decode cX10_lend 108 = .ok (.iadd, 1) := by decide +kernel
theorem dX10_lend_109 : decode cX10_lend 109 = .ok (.iload_n 2, 1) := by decide +kernel
theorem dX10_lend_110 : decode cX10_lend 110 = .ok (.iastore, 1) := by decide +kernel
theorem dX10_lend_111 : decode cX10_lend 111 = .ok (.aload_n 0, 1) := by decide +kernel
theorem dX10_lend_112 : decode cX10_lend 112 = .ok (.getfield 13, 3) := by decide +kernel
theorem dX10_lend_115 : decode cX10_lend 115 = .ok (.iload 4, 2) := by decide +kernel
theorem dX10_lend_117 : decode cX10_lend 117 = .ok (.iconst 2, 1) := by decide +kernel
theorem dX10_lend_118 : decode cX10_lend 118 = .ok (.iadd, 1) := by decide +kernel
theorem dX10_lend_119 : decode cX10_lend 119 = .ok (.iload_n 3, 1) := by decide +kernel
theorem dX10_lend_120 : decode cX10_lend 120 = .ok (.iastore, 1) := by decide +kernel
theorem dX10_lend_121 : decode cX10_lend 121 = .ok (.aload_n 0, 1) := by decide +kernel
theorem dX10_lend_122 : decode cX10_lend 122 = .ok (.getfield 13, 3) := by decide +kernel
theorem dX10_lend_125 : decode cX10_lend 125 = .ok (.bipush 9, 2) := by decide +kernel
theorem dX10_lend_127 : decode cX10_lend 127 = .ok (.dup2, 1) := by decide +kernel
theorem dX10_lend_128 : decode cX10_lend 128 = .ok (.iaload, 1) := by decide +kernel
theorem dX10_lend_129 : decode cX10_lend 129 = .ok (.iconst 1, 1) := by decide +kernel
theorem dX10_lend_130 : decode cX10_lend 130 = .ok (.iadd, 1) := by decide +kernel
theorem dX10_lend_131 : decode cX10_lend 131 = .ok (.iastore, 1) := by decide +kernel
theorem dX10_lend_132 : decode cX10_lend 132 = .ok (.aload_n 0, 1) := by decide +kernel
theorem dX10_lend_133 : decode cX10_lend 133 = .ok (.getfield 13, 3) := by decide +kernel
theorem dX10_lend_136 : decode cX10_lend 136 = .ok (.bipush 9, 2) := by decide +kernel
theorem dX10_lend_138 : decode cX10_lend 138 = .ok (.iaload, 1) := by decide +kernel
theorem dX10_lend_139 : decode cX10_lend 139 = .ok (.ireturn, 1) := by decide +kernel
theorem dX10_round_0 : decode cX10_round 0 = .ok (.aload_n 0, 1) := by decide +kernel
theorem dX10_round_1 : decode cX10_round 1 = .ok (.iload_n 1, 1) := by decide +kernel
theorem dX10_round_2 : decode cX10_round 2 = .ok (.iload_n 2, 1) := by decide +kernel
theorem dX10_round_3 : decode cX10_round 3 = .ok (.invokevirtual 289, 3) := by decide +kernel
theorem dX10_round_6 : decode cX10_round 6 = .ok (.ifCond .ne 6, 3) := by decide +kernel
theorem dX10_round_9 : decode cX10_round 9 = .ok (.bipush (-2), 2) := by decide +kernel
theorem dX10_round_11 : decode cX10_round 11 = .ok (.ireturn, 1) := by decide +kernel
theorem dX10_round_12 : decode cX10_round 12 = .ok (.iconst 1, 1) := by decide +kernel
theorem dX10_round_13 : decode cX10_round 13 = .ok (.istore_n 3, 1) := by decide +kernel
theorem dX10_round_14 : decode cX10_round 14 = .ok (.iload_n 3, 1) := by decide +kernel
theorem dX10_round_15 : decode cX10_round 15 = .ok (.bipush 30, 2) := by decide +kernel
theorem dX10_round_17 : decode cX10_round 17 = .ok (.if_icmp .gt 43, 3) := by decide +kernel
theorem dX10_round_20 : decode cX10_round 20 = .ok (.aload_n 0, 1) := by decide +kernel
theorem dX10_round_21 : decode cX10_round 21 = .ok (.iload_n 1, 1) := by decide +kernel
theorem dX10_round_22 : decode cX10_round 22 = .ok (.iload_n 2, 1) := by decide +kernel
theorem dX10_round_23 : decode cX10_round 23 = .ok (.iload_n 3, 1) := by decide +kernel
theorem dX10_round_24 : decode cX10_round 24 = .ok (.invokevirtual 475, 3) := by decide +kernel
theorem dX10_round_27 : decode cX10_round 27 = .ok (.ifCond .eq 27, 3) := by decide +kernel
theorem dX10_round_30 : decode cX10_round 30 = .ok (.aload_n 0, 1) := by decide +kernel
theorem dX10_round_31 : decode cX10_round 31 = .ok (.iload_n 1, 1) := by decide +kernel
theorem dX10_round_32 : decode cX10_round 32 = .ok (.iload_n 2, 1) := by decide +kernel
theorem dX10_round_33 : decode cX10_round 33 = .ok (.iload_n 3, 1) := by decide +kernel
theorem dX10_round_34 : decode cX10_round 34 = .ok (.iload_n 1, 1) := by decide +kernel
theorem dX10_round_35 : decode cX10_round 35 = .ok (.invokevirtual 403, 3) := by decide +kernel
theorem dX10_round_38 : decode cX10_round 38 = .ok (.ifCond .ne 16, 3) := by decide +kernel
theorem dX10_round_41 : decode cX10_round 41 = .ok (.aload_n 0, 1) := by decide +kernel
theorem dX10_round_42 : decode cX10_round 42 = .ok (.iload_n 1, 1) := by decide +kernel
theorem dX10_round_43 : decode cX10_round 43 = .ok (.iload_n 2, 1) := by decide +kernel
theorem dX10_round_44 : decode cX10_round 44 = .ok (.iload_n 3, 1) := by decide +kernel
theorem dX10_round_45 : decode cX10_round 45 = .ok (.iload_n 2, 1) := by decide +kernel
theorem dX10_round_46 : decode cX10_round 46 = .ok (.invokevirtual 403, 3) := by decide +kernel
theorem dX10_round_49 : decode cX10_round 49 = .ok (.ifCond .ne 5, 3) := by decide +kernel
theorem dX10_round_52 : decode cX10_round 52 = .ok (.iload_n 3, 1) := by decide +kernel
theorem dX10_round_53 : decode cX10_round 53 = .ok (.ireturn, 1) := by decide +kernel
theorem dX10_round_54 : decode cX10_round 54 = .ok (.iinc 3 1, 3) := by decide +kernel
theorem dX10_round_57 : decode cX10_round 57 = .ok (.goto (-43), 3) := by decide +kernel
theorem dX10_round_60 : decode cX10_round 60 = .ok (.iconst (-1), 1) := by decide +kernel
theorem dX10_round_61 : decode cX10_round 61 = .ok (.ireturn, 1) := by decide +kernel
theorem dX10_canHide_0 : decode cX10_canHide 0 = .ok (.aload_n 0, 1) := by decide +kernel
theorem dX10_canHide_1 : decode cX10_canHide 1 = .ok (.iload_n 1, 1) := by decide +kernel
theorem dX10_canHide_2 : decode cX10_canHide 2 = .ok (.invokevirtual 106, 3) := by decide +kernel
theorem dX10_canHide_5 : decode cX10_canHide 5 = .ok (.ifCond .eq 23, 3) := by decide +kernel
theorem dX10_canHide_8 : decode cX10_canHide 8 = .ok (.iload_n 2, 1) := by decide +kernel
theorem dX10_canHide_9 : decode cX10_canHide 9 = .ok (.i2l, 1) := by decide +kernel
theorem dX10_canHide_10 : decode cX10_canHide 10 = .ok (.lconst 0, 1) := by decide +kernel
theorem dX10_canHide_11 : decode cX10_canHide 11 = .ok (.aload_n 0, 1) := by decide +kernel
theorem dX10_canHide_12 : decode cX10_canHide 12 = .ok (.iload_n 1, 1) := by decide +kernel
theorem dX10_canHide_13 : decode cX10_canHide 13 = .ok (.iconst 0, 1) := by decide +kernel
theorem dX10_canHide_14 : decode cX10_canHide 14 = .ok (.invokevirtual 276, 3) := by decide +kernel
theorem dX10_canHide_17 : decode cX10_canHide 17 = .ok (.i2l, 1) := by decide +kernel
theorem dX10_canHide_18 : decode cX10_canHide 18 = .ok (.invokestatic 98, 3) := by decide +kernel
theorem dX10_canHide_21 : decode cX10_canHide 21 = .ok (.ifCond .eq 7, 3) := by decide +kernel
theorem dX10_canHide_24 : decode cX10_canHide 24 = .ok (.iconst 1, 1) := by decide +kernel
theorem dX10_canHide_25 : decode cX10_canHide 25 = .ok (.goto 4, 3) := by decide +kernel
theorem dX10_canHide_28 : decode cX10_canHide 28 = .ok (.iconst 0, 1) := by decide +kernel
theorem dX10_canHide_29 : decode cX10_canHide 29 = .ok (.ireturn, 1) := by decide +kernel
theorem dX10_hides_0 : decode cX10_hides 0 = .ok (.aload_n 0, 1) := by decide +kernel
theorem dX10_hides_1 : decode cX10_hides 1 = .ok (.iload_n 1, 1) := by decide +kernel
theorem dX10_hides_2 : decode cX10_hides 2 = .ok (.iload_n 2, 1) := by decide +kernel
theorem dX10_hides_3 : decode cX10_hides 3 = .ok (.invokevirtual 482, 3) := by decide +kernel
theorem dX10_hides_6 : decode cX10_hides 6 = .ok (.ifCond .eq 19, 3) := by decide +kernel
theorem dX10_hides_9 : decode cX10_hides 9 = .ok (.aload_n 0, 1) := by decide +kernel
theorem dX10_hides_10 : decode cX10_hides 10 = .ok (.iload_n 1, 1) := by decide +kernel
theorem dX10_hides_11 : decode cX10_hides 11 = .ok (.iload_n 2, 1) := by decide +kernel
theorem dX10_hides_12 : decode cX10_hides 12 = .ok (.aload_n 0, 1) := by decide +kernel
theorem dX10_hides_13 : decode cX10_hides 13 = .ok (.getfield 13, 3) := by decide +kernel
theorem dX10_hides_16 : decode cX10_hides 16 = .ok (.bipush 6, 2) := by decide +kernel
theorem dX10_hides_18 : decode cX10_hides 18 = .ok (.iaload, 1) := by decide +kernel
theorem dX10_hides_19 : decode cX10_hides 19 = .ok (.invokevirtual 485, 3) := by decide +kernel
theorem dX10_hides_22 : decode cX10_hides 22 = .ok (.goto 6, 3) := by decide +kernel
theorem dX10_hides_25 : decode cX10_hides 25 = .ok (.ldc_w 388, 3) := by decide +kernel
theorem dX10_hides_28 : decode cX10_hides 28 = .ok (.ireturn, 1) := by decide +kernel
theorem dX10_edge_0 : decode cX10_edge 0 = .ok (.aload_n 0, 1) := by decide +kernel
theorem dX10_edge_1 : decode cX10_edge 1 = .ok (.iload_n 1, 1) := by decide +kernel
theorem dX10_edge_2 : decode cX10_edge 2 = .ok (.iload_n 2, 1) := by decide +kernel
theorem dX10_edge_3 : decode cX10_edge 3 = .ok (.invokevirtual 482, 3) := by decide +kernel
theorem dX10_edge_6 : decode cX10_edge 6 = .ok (.ifCond .ne 6, 3) := by decide +kernel
theorem dX10_edge_9 : decode cX10_edge 9 = .ok (.bipush (-2), 2) := by decide +kernel
theorem dX10_edge_11 : decode cX10_edge 11 = .ok (.ireturn, 1) := by decide +kernel
theorem dX10_edge_12 : decode cX10_edge 12 = .ok (.aload_n 0, 1) := by decide +kernel
theorem dX10_edge_13 : decode cX10_edge 13 = .ok (.iload_n 1, 1) := by decide +kernel
theorem dX10_edge_14 : decode cX10_edge 14 = .ok (.aload_n 0, 1) := by decide +kernel
theorem dX10_edge_15 : decode cX10_edge 15 = .ok (.iload_n 1, 1) := by decide +kernel
theorem dX10_edge_16 : decode cX10_edge 16 = .ok (.iconst 0, 1) := by decide +kernel
theorem dX10_edge_17 : decode cX10_edge 17 = .ok (.invokevirtual 276, 3) := by decide +kernel
theorem dX10_edge_20 : decode cX10_edge 20 = .ok (.iconst 0, 1) := by decide +kernel
theorem dX10_edge_21 : decode cX10_edge 21 = .ok (.invokevirtual 479, 3) := by decide +kernel
theorem dX10_edge_24 : decode cX10_edge 24 = .ok (.istore_n 3, 1) := by decide +kernel
theorem dX10_edge_25 : decode cX10_edge 25 = .ok (.iconst 0, 1) := by decide +kernel
theorem dX10_edge_26 : decode cX10_edge 26 = .ok (.istore 4, 2) := by decide +kernel
theorem dX10_edge_28 : decode cX10_edge 28 = .ok (.iload 4, 2) := by decide +kernel
theorem dX10_edge_30 : decode cX10_edge 30 = .ok (.bipush 100, 2) := by decide +kernel
theorem dX10_edge_32 : decode cX10_edge 32 = .ok (.if_icmp .gt 24, 3) := by decide +kernel
theorem dX10_edge_35 : decode cX10_edge 35 = .ok (.aload_n 0, 1) := by decide +kernel
theorem dX10_edge_36 : decode cX10_edge 36 = .ok (.iload_n 1, 1) := by decide +kernel
theorem dX10_edge_37 : decode cX10_edge 37 = .ok (.iload_n 2, 1) := by decide +kernel
theorem dX10_edge_38 : decode cX10_edge 38 = .ok (.iload 4, 2) := by decide +kernel
theorem dX10_edge_40 : decode cX10_edge 40 = .ok (.invokevirtual 485, 3) := by decide +kernel
theorem dX10_edge_43 : decode cX10_edge 43 = .ok (.iload_n 3, 1) := by decide +kernel
theorem dX10_edge_44 : decode cX10_edge 44 = .ok (.if_icmp .gt 6, 3) := by decide +kernel
theorem dX10_edge_47 : decode cX10_edge 47 = .ok (.iload 4, 2) := by decide +kernel
theorem dX10_edge_49 : decode cX10_edge 49 = .ok (.ireturn, 1) := by decide +kernel
theorem dX10_edge_50 : decode cX10_edge 50 = .ok (.iinc 4 1, 3) := by decide +kernel
theorem dX10_edge_53 : decode cX10_edge 53 = .ok (.goto (-25), 3) := by decide +kernel
theorem dX10_edge_56 : decode cX10_edge 56 = .ok (.iconst (-1), 1) := by decide +kernel
theorem dX10_edge_57 : decode cX10_edge 57 = .ok (.ireturn, 1) := by decide +kernel
theorem dX10_pays_0 : decode cX10_pays 0 = .ok (.aload_n 0, 1) := by decide +kernel
theorem dX10_pays_1 : decode cX10_pays 1 = .ok (.iload_n 1, 1) := by decide +kernel
theorem dX10_pays_2 : decode cX10_pays 2 = .ok (.invokevirtual 106, 3) := by decide +kernel
theorem dX10_pays_5 : decode cX10_pays 5 = .ok (.ifCond .eq 15, 3) := by decide +kernel
theorem dX10_pays_8 : decode cX10_pays 8 = .ok (.iload_n 2, 1) := by decide +kernel
theorem dX10_pays_9 : decode cX10_pays 9 = .ok (.i2l, 1) := by decide +kernel
theorem dX10_pays_10 : decode cX10_pays 10 = .ok (.lconst 1, 1) := by decide +kernel
theorem dX10_pays_11 : decode cX10_pays 11 = .ok (.ldc2_w 287, 3) := by decide +kernel
theorem dX10_pays_14 : decode cX10_pays 14 = .ok (.invokestatic 98, 3) := by decide +kernel
theorem dX10_pays_17 : decode cX10_pays 17 = .ok (.ifCond .ne 6, 3) := by decide +kernel
theorem dX10_pays_20 : decode cX10_pays 20 = .ok (.bipush (-2), 2) := by decide +kernel
theorem dX10_pays_22 : decode cX10_pays 22 = .ok (.ireturn, 1) := by decide +kernel
theorem dX10_pays_23 : decode cX10_pays 23 = .ok (.aload_n 0, 1) := by decide +kernel
theorem dX10_pays_24 : decode cX10_pays 24 = .ok (.getfield 68, 3) := by decide +kernel
theorem dX10_pays_27 : decode cX10_pays 27 = .ok (.iload_n 1, 1) := by decide +kernel
theorem dX10_pays_28 : decode cX10_pays 28 = .ok (.iaload, 1) := by decide +kernel
theorem dX10_pays_29 : decode cX10_pays 29 = .ok (.istore_n 3, 1) := by decide +kernel
theorem dX10_pays_30 : decode cX10_pays 30 = .ok (.aload_n 0, 1) := by decide +kernel
theorem dX10_pays_31 : decode cX10_pays 31 = .ok (.invokevirtual 360, 3) := by decide +kernel
theorem dX10_pays_34 : decode cX10_pays 34 = .ok (.aload_n 0, 1) := by decide +kernel
theorem dX10_pays_35 : decode cX10_pays 35 = .ok (.iload_n 2, 1) := by decide +kernel
theorem dX10_pays_36 : decode cX10_pays 36 = .ok (.invokevirtual 442, 3) := by decide +kernel
theorem dX10_pays_39 : decode cX10_pays 39 = .ok (.pop, 1) := by decide +kernel
theorem dX10_pays_40 : decode cX10_pays 40 = .ok (.aload_n 0, 1) := by decide +kernel
theorem dX10_pays_41 : decode cX10_pays 41 = .ok (.invokevirtual 367, 3) := by decide +kernel
theorem dX10_pays_44 : decode cX10_pays 44 = .ok (.aload_n 0, 1) := by decide +kernel
theorem dX10_pays_45 : decode cX10_pays 45 = .ok (.getfield 68, 3) := by decide +kernel
theorem dX10_pays_48 : decode cX10_pays 48 = .ok (.iload_n 1, 1) := by decide +kernel
theorem dX10_pays_49 : decode cX10_pays 49 = .ok (.iaload, 1) := by decide +kernel
theorem dX10_pays_50 : decode cX10_pays 50 = .ok (.iload_n 3, 1) := by decide +kernel
theorem dX10_pays_51 : decode cX10_pays 51 = .ok (.isub, 1) := by decide +kernel
theorem dX10_pays_52 : decode cX10_pays 52 = .ok (.ireturn, 1) := by decide +kernel
theorem dX10_quiet_0 : decode cX10_quiet 0 = .ok (.aload_n 0, 1) := by decide +kernel
theorem dX10_quiet_1 : decode cX10_quiet 1 = .ok (.iload_n 1, 1) := by decide +kernel
theorem dX10_quiet_2 : decode cX10_quiet 2 = .ok (.invokevirtual 439, 3) := by decide +kernel
theorem dX10_quiet_5 : decode cX10_quiet 5 = .ok (.ifCond .eq 13, 3) := by decide +kernel
theorem dX10_quiet_8 : decode cX10_quiet 8 = .ok (.iload_n 2, 1) := by decide +kernel
theorem dX10_quiet_9 : decode cX10_quiet 9 = .ok (.i2l, 1) := by decide +kernel
theorem dX10_quiet_10 : decode cX10_quiet 10 = .ok (.lconst 0, 1) := by decide +kernel
theorem dX10_quiet_11 : decode cX10_quiet 11 = .ok (.lconst 1, 1) := by decide +kernel
theorem dX10_quiet_12 : decode cX10_quiet 12 = .ok (.invokestatic 98, 3) := by decide +kernel
theorem dX10_quiet_15 : decode cX10_quiet 15 = .ok (.ifCond .ne 6, 3) := by decide +kernel
theorem dX10_quiet_18 : decode cX10_quiet 18 = .ok (.bipush (-2), 2) := by decide +kernel
theorem dX10_quiet_20 : decode cX10_quiet 20 = .ok (.ireturn, 1) := by decide +kernel
theorem dX10_quiet_21 : decode cX10_quiet 21 = .ok (.aload_n 0, 1) := by decide +kernel
theorem dX10_quiet_22 : decode cX10_quiet 22 = .ok (.invokevirtual 360, 3) := by decide +kernel
theorem dX10_quiet_25 : decode cX10_quiet 25 = .ok (.iconst 0, 1) := by decide +kernel
theorem dX10_quiet_26 : decode cX10_quiet 26 = .ok (.istore_n 3, 1) := by decide +kernel
theorem dX10_quiet_27 : decode cX10_quiet 27 = .ok (.iconst 0, 1) := by decide +kernel
theorem dX10_quiet_28 : decode cX10_quiet 28 = .ok (.istore 4, 2) := by decide +kernel
theorem dX10_quiet_30 : decode cX10_quiet 30 = .ok (.iconst 1, 1) := by decide +kernel
theorem dX10_quiet_31 : decode cX10_quiet 31 = .ok (.istore 5, 2) := by decide +kernel
theorem dX10_quiet_33 : decode cX10_quiet 33 = .ok (.iload 5, 2) := by decide +kernel
theorem dX10_quiet_35 : decode cX10_quiet 35 = .ok (.iload_n 1, 1) := by decide +kernel
theorem dX10_quiet_36 : decode cX10_quiet 36 = .ok (.if_icmp .gt 36, 3) := by decide +kernel
theorem dX10_quiet_39 : decode cX10_quiet 39 = .ok (.aload_n 0, 1) := by decide +kernel
theorem dX10_quiet_40 : decode cX10_quiet 40 = .ok (.invokevirtual 436, 3) := by decide +kernel
theorem dX10_quiet_43 : decode cX10_quiet 43 = .ok (.ifCond .le 6, 3) := by decide +kernel
theorem dX10_quiet_46 : decode cX10_quiet 46 = .ok (.goto 20, 3) := by decide +kernel
theorem dX10_quiet_49 : decode cX10_quiet 49 = .ok (.iinc 3 1, 3) := by decide +kernel
theorem dX10_quiet_52 : decode cX10_quiet 52 = .ok (.iload 4, 2) := by decide +kernel
theorem dX10_quiet_54 : decode cX10_quiet 54 = .ok (.ifCond .ne 8, 3) := by decide +kernel
theorem dX10_quiet_57 : decode cX10_quiet 57 = .ok (.iload 5, 2) := by decide +kernel
theorem dX10_quiet_59 : decode cX10_quiet 59 = .ok (.goto 5, 3) := by decide +kernel
theorem dX10_quiet_62 : decode cX10_quiet 62 = .ok (.iload 4, 2) := by decide +kernel
theorem dX10_quiet_64 : decode cX10_quiet 64 = .ok (.istore 4, 2) := by decide +kernel
theorem dX10_quiet_66 : decode cX10_quiet 66 = .ok (.iinc 5 1, 3) := by decide +kernel
theorem dX10_quiet_69 : decode cX10_quiet 69 = .ok (.goto (-36), 3) := by decide +kernel
theorem dX10_quiet_72 : decode cX10_quiet 72 = .ok (.aload_n 0, 1) := by decide +kernel
theorem dX10_quiet_73 : decode cX10_quiet 73 = .ok (.invokevirtual 367, 3) := by decide +kernel
theorem dX10_quiet_76 : decode cX10_quiet 76 = .ok (.iload_n 2, 1) := by decide +kernel
theorem dX10_quiet_77 : decode cX10_quiet 77 = .ok (.ifCond .ne 7, 3) := by decide +kernel
theorem dX10_quiet_80 : decode cX10_quiet 80 = .ok (.iload_n 3, 1) := by decide +kernel
theorem dX10_quiet_81 : decode cX10_quiet 81 = .ok (.goto 5, 3) := by decide +kernel
theorem dX10_quiet_84 : decode cX10_quiet 84 = .ok (.iload 4, 2) := by decide +kernel
theorem dX10_quiet_86 : decode cX10_quiet 86 = .ok (.ireturn, 1) := by decide +kernel
theorem dX10_again_0 : decode cX10_again 0 = .ok (.aload_n 0, 1) := by decide +kernel
theorem dX10_again_1 : decode cX10_again 1 = .ok (.iload_n 1, 1) := by decide +kernel
theorem dX10_again_2 : decode cX10_again 2 = .ok (.invokevirtual 439, 3) := by decide +kernel
theorem dX10_again_5 : decode cX10_again 5 = .ok (.ifCond .ne 6, 3) := by decide +kernel
theorem dX10_again_8 : decode cX10_again 8 = .ok (.bipush (-2), 2) := by decide +kernel
theorem dX10_again_10 : decode cX10_again 10 = .ok (.ireturn, 1) := by decide +kernel
theorem dX10_again_11 : decode cX10_again 11 = .ok (.iconst 0, 1) := by decide +kernel
theorem dX10_again_12 : decode cX10_again 12 = .ok (.istore_n 2, 1) := by decide +kernel
theorem dX10_again_13 : decode cX10_again 13 = .ok (.iload_n 2, 1) := by decide +kernel
theorem dX10_again_14 : decode cX10_again 14 = .ok (.aload_n 0, 1) := by decide +kernel
theorem dX10_again_15 : decode cX10_again 15 = .ok (.invokevirtual 295, 3) := by decide +kernel
theorem dX10_again_18 : decode cX10_again 18 = .ok (.if_icmp .ge 21, 3) := by decide +kernel
theorem dX10_again_21 : decode cX10_again 21 = .ok (.aload_n 0, 1) := by decide +kernel
theorem dX10_again_22 : decode cX10_again 22 = .ok (.getfield 65, 3) := by decide +kernel
theorem dX10_again_25 : decode cX10_again 25 = .ok (.iload_n 2, 1) := by decide +kernel
theorem dX10_again_26 : decode cX10_again 26 = .ok (.aload_n 0, 1) := by decide +kernel
theorem dX10_again_27 : decode cX10_again 27 = .ok (.iload_n 2, 1) := by decide +kernel
theorem dX10_again_28 : decode cX10_again 28 = .ok (.iconst 0, 1) := by decide +kernel
theorem dX10_again_29 : decode cX10_again 29 = .ok (.invokevirtual 276, 3) := by decide +kernel
theorem dX10_again_32 : decode cX10_again 32 = .ok (.iastore, 1) := by decide +kernel
theorem dX10_again_33 : decode cX10_again 33 = .ok (.iinc 2 1, 3) := by decide +kernel
theorem dX10_again_36 : decode cX10_again 36 = .ok (.goto (-23), 3) := by decide +kernel
theorem dX10_again_39 : decode cX10_again 39 = .ok (.aload_n 0, 1) := by decide +kernel
theorem dX10_again_40 : decode cX10_again 40 = .ok (.invokevirtual 360, 3) := by decide +kernel
theorem dX10_again_43 : decode cX10_again 43 = .ok (.iconst (-1), 1) := by decide +kernel
theorem dX10_again_44 : decode cX10_again 44 = .ok (.istore_n 2, 1) := by decide +kernel
theorem dX10_again_45 : decode cX10_again 45 = .ok (.iconst 1, 1) := by decide +kernel
theorem dX10_again_46 : decode cX10_again 46 = .ok (.istore_n 3, 1) := by decide +kernel
theorem dX10_again_47 : decode cX10_again 47 = .ok (.iload_n 3, 1) := by decide +kernel
theorem dX10_again_48 : decode cX10_again 48 = .ok (.iload_n 1, 1) := by decide +kernel
theorem dX10_again_49 : decode cX10_again 49 = .ok (.if_icmp .gt 33, 3) := by decide +kernel
theorem dX10_again_52 : decode cX10_again 52 = .ok (.iload_n 2, 1) := by decide +kernel
theorem dX10_again_53 : decode cX10_again 53 = .ok (.iconst (-1), 1) := by decide +kernel
theorem dX10_again_54 : decode cX10_again 54 = .ok (.if_icmp .ne 28, 3) := by decide +kernel
theorem dX10_again_57 : decode cX10_again 57 = .ok (.aload_n 0, 1) := by decide +kernel
theorem dX10_again_58 : decode cX10_again 58 = .ok (.invokevirtual 436, 3) := by decide +kernel
theorem dX10_again_61 : decode cX10_again 61 = .ok (.istore 4, 2) := by decide +kernel
theorem dX10_again_63 : decode cX10_again 63 = .ok (.aload_n 0, 1) := by decide +kernel
theorem dX10_again_64 : decode cX10_again 64 = .ok (.invokevirtual 488, 3) := by decide +kernel
theorem dX10_again_67 : decode cX10_again 67 = .ok (.ifCond .eq 7, 3) := by decide +kernel
theorem dX10_again_70 : decode cX10_again 70 = .ok (.iload_n 3, 1) := by decide +kernel
theorem dX10_again_71 : decode cX10_again 71 = .ok (.goto 4, 3) := by decide +kernel
theorem dX10_again_74 : decode cX10_again 74 = .ok (.iconst (-1), 1) := by decide +kernel
theorem dX10_again_75 : decode cX10_again 75 = .ok (.istore_n 2, 1) := by decide +kernel
theorem dX10_again_76 : decode cX10_again 76 = .ok (.iinc 3 1, 3) := by decide +kernel
theorem dX10_again_79 : decode cX10_again 79 = .ok (.goto (-32), 3) := by decide +kernel
theorem dX10_again_82 : decode cX10_again 82 = .ok (.aload_n 0, 1) := by decide +kernel
theorem dX10_again_83 : decode cX10_again 83 = .ok (.invokevirtual 367, 3) := by decide +kernel
theorem dX10_again_86 : decode cX10_again 86 = .ok (.iload_n 2, 1) := by decide +kernel
theorem dX10_again_87 : decode cX10_again 87 = .ok (.ireturn, 1) := by decide +kernel
theorem dX10_alike_0 : decode cX10_alike 0 = .ok (.aload_n 0, 1) := by decide +kernel
theorem dX10_alike_1 : decode cX10_alike 1 = .ok (.iload_n 1, 1) := by decide +kernel
theorem dX10_alike_2 : decode cX10_alike 2 = .ok (.invokevirtual 439, 3) := by decide +kernel
theorem dX10_alike_5 : decode cX10_alike 5 = .ok (.ifCond .ne 6, 3) := by decide +kernel
theorem dX10_alike_8 : decode cX10_alike 8 = .ok (.bipush (-2), 2) := by decide +kernel
theorem dX10_alike_10 : decode cX10_alike 10 = .ok (.ireturn, 1) := by decide +kernel
theorem dX10_alike_11 : decode cX10_alike 11 = .ok (.aload_n 0, 1) := by decide +kernel
theorem dX10_alike_12 : decode cX10_alike 12 = .ok (.invokevirtual 360, 3) := by decide +kernel
theorem dX10_alike_15 : decode cX10_alike 15 = .ok (.iconst (-1), 1) := by decide +kernel
theorem dX10_alike_16 : decode cX10_alike 16 = .ok (.istore_n 2, 1) := by decide +kernel
theorem dX10_alike_17 : decode cX10_alike 17 = .ok (.iconst 1, 1) := by decide +kernel
theorem dX10_alike_18 : decode cX10_alike 18 = .ok (.istore_n 3, 1) := by decide +kernel
theorem dX10_alike_19 : decode cX10_alike 19 = .ok (.iload_n 3, 1) := by decide +kernel
theorem dX10_alike_20 : decode cX10_alike 20 = .ok (.iload_n 1, 1) := by decide +kernel
theorem dX10_alike_21 : decode cX10_alike 21 = .ok (.if_icmp .gt 33, 3) := by decide +kernel
theorem dX10_alike_24 : decode cX10_alike 24 = .ok (.iload_n 2, 1) := by decide +kernel
theorem dX10_alike_25 : decode cX10_alike 25 = .ok (.iconst (-1), 1) := by decide +kernel
theorem dX10_alike_26 : decode cX10_alike 26 = .ok (.if_icmp .ne 28, 3) := by decide +kernel
theorem dX10_alike_29 : decode cX10_alike 29 = .ok (.aload_n 0, 1) := by decide +kernel
theorem dX10_alike_30 : decode cX10_alike 30 = .ok (.invokevirtual 436, 3) := by decide +kernel
theorem dX10_alike_33 : decode cX10_alike 33 = .ok (.istore 4, 2) := by decide +kernel
theorem dX10_alike_35 : decode cX10_alike 35 = .ok (.aload_n 0, 1) := by decide +kernel
theorem dX10_alike_36 : decode cX10_alike 36 = .ok (.invokevirtual 491, 3) := by decide +kernel
theorem dX10_alike_39 : decode cX10_alike 39 = .ok (.ifCond .eq 7, 3) := by decide +kernel
theorem dX10_alike_42 : decode cX10_alike 42 = .ok (.iload_n 3, 1) := by decide +kernel
theorem dX10_alike_43 : decode cX10_alike 43 = .ok (.goto 4, 3) := by decide +kernel
theorem dX10_alike_46 : decode cX10_alike 46 = .ok (.iconst (-1), 1) := by decide +kernel
theorem dX10_alike_47 : decode cX10_alike 47 = .ok (.istore_n 2, 1) := by decide +kernel
theorem dX10_alike_48 : decode cX10_alike 48 = .ok (.iinc 3 1, 3) := by decide +kernel
theorem dX10_alike_51 : decode cX10_alike 51 = .ok (.goto (-32), 3) := by decide +kernel
theorem dX10_alike_54 : decode cX10_alike 54 = .ok (.aload_n 0, 1) := by decide +kernel
theorem dX10_alike_55 : decode cX10_alike 55 = .ok (.invokevirtual 367, 3) := by decide +kernel
theorem dX10_alike_58 : decode cX10_alike 58 = .ok (.iload_n 2, 1) := by decide +kernel
theorem dX10_alike_59 : decode cX10_alike 59 = .ok (.ireturn, 1) := by decide +kernel
theorem dX10_follows_0 : decode cX10_follows 0 = .ok (.aload_n 0, 1) := by decide +kernel
theorem dX10_follows_1 : decode cX10_follows 1 = .ok (.iload_n 1, 1) := by decide +kernel
theorem dX10_follows_2 : decode cX10_follows 2 = .ok (.invokevirtual 106, 3) := by decide +kernel
theorem dX10_follows_5 : decode cX10_follows 5 = .ok (.ifCond .eq 37, 3) := by decide +kernel
theorem dX10_follows_8 : decode cX10_follows 8 = .ok (.iload_n 2, 1) := by decide +kernel
theorem dX10_follows_9 : decode cX10_follows 9 = .ok (.invokestatic 357, 3) := by decide +kernel
theorem dX10_follows_12 : decode cX10_follows 12 = .ok (.ifCond .eq 30, 3) := by decide +kernel
theorem dX10_follows_15 : decode cX10_follows 15 = .ok (.aload_n 0, 1) := by decide +kernel
theorem dX10_follows_16 : decode cX10_follows 16 = .ok (.getfield 80, 3) := by decide +kernel
theorem dX10_follows_19 : decode cX10_follows 19 = .ok (.iload_n 2, 1) := by decide +kernel
theorem dX10_follows_20 : decode cX10_follows 20 = .ok (.iaload, 1) := by decide +kernel
theorem dX10_follows_21 : decode cX10_follows 21 = .ok (.iconst (-1), 1) := by decide +kernel
theorem dX10_follows_22 : decode cX10_follows 22 = .ok (.if_icmp .eq 20, 3) := by decide +kernel
theorem dX10_follows_25 : decode cX10_follows 25 = .ok (.aload_n 0, 1) := by decide +kernel
theorem dX10_follows_26 : decode cX10_follows 26 = .ok (.getfield 80, 3) := by decide +kernel
theorem dX10_follows_29 : decode cX10_follows 29 = .ok (.iload_n 2, 1) := by decide +kernel
theorem dX10_follows_30 : decode cX10_follows 30 = .ok (.iaload, 1) := by decide +kernel
theorem dX10_follows_31 : decode cX10_follows 31 = .ok (.i2l, 1) := by decide +kernel
theorem dX10_follows_32 : decode cX10_follows 32 = .ok (.lconst 1, 1) := by decide +kernel
theorem dX10_follows_33 : decode cX10_follows 33 = .ok (.ldc2_w 287, 3) := by decide +kernel
theorem dX10_follows_36 : decode cX10_follows 36 = .ok (.invokestatic 98, 3) := by decide +kernel
theorem dX10_follows_39 : decode cX10_follows 39 = .ok (.ifCond .ne 7, 3) := by decide +kernel
theorem dX10_follows_42 : decode cX10_follows 42 = .ok (.ldc_w 388, 3) := by decide +kernel
theorem dX10_follows_45 : decode cX10_follows 45 = .ok (.ireturn, 1) := by decide +kernel
theorem dX10_follows_46 : decode cX10_follows 46 = .ok (.iconst 0, 1) := by decide +kernel
theorem dX10_follows_47 : decode cX10_follows 47 = .ok (.istore_n 3, 1) := by decide +kernel
theorem dX10_follows_48 : decode cX10_follows 48 = .ok (.iload_n 3, 1) := by decide +kernel
theorem dX10_follows_49 : decode cX10_follows 49 = .ok (.aload_n 0, 1) := by decide +kernel
theorem dX10_follows_50 : decode cX10_follows 50 = .ok (.getfield 80, 3) := by decide +kernel
theorem dX10_follows_53 : decode cX10_follows 53 = .ok (.iload_n 2, 1) := by decide +kernel
theorem dX10_follows_54 : decode cX10_follows 54 = .ok (.iaload, 1) := by decide +kernel
theorem dX10_follows_55 : decode cX10_follows 55 = .ok (.if_icmp .ge 52, 3) := by decide +kernel
theorem dX10_follows_58 : decode cX10_follows 58 = .ok (.aload_n 0, 1) := by decide +kernel
theorem dX10_follows_59 : decode cX10_follows 59 = .ok (.getfield 86, 3) := by decide +kernel
theorem dX10_follows_62 : decode cX10_follows 62 = .ok (.bipush 60, 2) := by decide +kernel
theorem dX10_follows_64 : decode cX10_follows 64 = .ok (.iload_n 2, 1) := by decide +kernel
theorem dX10_follows_65 : decode cX10_follows 65 = .ok (.imul, 1) := by decide +kernel
theorem dX10_follows_66 : decode cX10_follows 66 = .ok (.iload_n 3, 1) := by decide +kernel
theorem dX10_follows_67 : decode cX10_follows 67 = .ok (.iadd, 1) := by decide +kernel
theorem dX10_follows_68 : decode cX10_follows 68 = .ok (.laload, 1) := by decide +kernel
theorem dX10_follows_69 : decode cX10_follows 69 = .ok (.lconst 0, 1) := by decide +kernel
theorem dX10_follows_70 : decode cX10_follows 70 = .ok (.ldc2_w 445, 3) := by decide +kernel
theorem dX10_follows_73 : decode cX10_follows 73 = .ok (.invokestatic 98, 3) := by decide +kernel
theorem dX10_follows_76 : decode cX10_follows 76 = .ok (.ifCond .ne 7, 3) := by decide +kernel
theorem dX10_follows_79 : decode cX10_follows 79 = .ok (.ldc_w 388, 3) := by decide +kernel
theorem dX10_follows_82 : decode cX10_follows 82 = .ok (.ireturn, 1) := by decide +kernel
theorem dX10_follows_83 : decode cX10_follows 83 = .ok (.aload_n 0, 1) := by decide +kernel
theorem dX10_follows_84 : decode cX10_follows 84 = .ok (.getfield 71, 3) := by decide +kernel
theorem dX10_follows_87 : decode cX10_follows 87 = .ok (.iload_n 3, 1) := by decide +kernel
theorem dX10_follows_88 : decode cX10_follows 88 = .ok (.aload_n 0, 1) := by decide +kernel
theorem dX10_follows_89 : decode cX10_follows 89 = .ok (.getfield 86, 3) := by decide +kernel
theorem dX10_follows_92 : decode cX10_follows 92 = .ok (.bipush 60, 2) := by decide +kernel
theorem dX10_follows_94 : decode cX10_follows 94 = .ok (.iload_n 2, 1) := by decide +kernel
theorem dX10_follows_95 : decode cX10_follows 95 = .ok (.imul, 1) := by decide +kernel
theorem dX10_follows_96 : decode cX10_follows 96 = .ok (.iload_n 3, 1) := by decide +kernel
theorem dX10_follows_97 : decode cX10_follows 97 = .ok (.iadd, 1) := by decide +kernel
theorem dX10_follows_98 : decode cX10_follows 98 = .ok (.laload, 1) := by decide +kernel
theorem dX10_follows_99 : decode cX10_follows 99 = .ok (.l2i, 1) := by decide +kernel
theorem dX10_follows_100 : decode cX10_follows 100 = .ok (.iastore, 1) := by decide +kernel
theorem dX10_follows_101 : decode cX10_follows 101 = .ok (.iinc 3 1, 3) := by decide +kernel
theorem dX10_follows_104 : decode cX10_follows 104 = .ok (.goto (-56), 3) := by decide +kernel
theorem dX10_follows_107 : decode cX10_follows 107 = .ok (.aload_n 0, 1) := by decide +kernel
theorem dX10_follows_108 : decode cX10_follows 108 = .ok (.iload_n 1, 1) := by decide +kernel
theorem dX10_follows_109 : decode cX10_follows 109 = .ok (.aload_n 0, 1) := by decide +kernel
theorem dX10_follows_110 : decode cX10_follows 110 = .ok (.getfield 80, 3) := by decide +kernel
theorem dX10_follows_113 : decode cX10_follows 113 = .ok (.iload_n 2, 1) := by decide +kernel
theorem dX10_follows_114 : decode cX10_follows 114 = .ok (.iaload, 1) := by decide +kernel
theorem dX10_follows_115 : decode cX10_follows 115 = .ok (.invokevirtual 494, 3) := by decide +kernel
theorem dX10_follows_118 : decode cX10_follows 118 = .ok (.ireturn, 1) := by decide +kernel
theorem dX10_plan_0 : decode cX10_plan 0 = .ok (.aload_n 0, 1) := by decide +kernel
theorem dX10_plan_1 : decode cX10_plan 1 = .ok (.iload_n 1, 1) := by decide +kernel
theorem dX10_plan_2 : decode cX10_plan 2 = .ok (.invokevirtual 106, 3) := by decide +kernel
theorem dX10_plan_5 : decode cX10_plan 5 = .ok (.ifCond .eq 26, 3) := by decide +kernel
theorem dX10_plan_8 : decode cX10_plan 8 = .ok (.iload_n 2, 1) := by decide +kernel
theorem dX10_plan_9 : decode cX10_plan 9 = .ok (.i2l, 1) := by decide +kernel
theorem dX10_plan_10 : decode cX10_plan 10 = .ok (.lconst 1, 1) := by decide +kernel
theorem dX10_plan_11 : decode cX10_plan 11 = .ok (.ldc2_w 282, 3) := by decide +kernel
theorem dX10_plan_14 : decode cX10_plan 14 = .ok (.invokestatic 98, 3) := by decide +kernel
theorem dX10_plan_17 : decode cX10_plan 17 = .ok (.ifCond .eq 14, 3) := by decide +kernel
theorem dX10_plan_20 : decode cX10_plan 20 = .ok (.iload_n 3, 1) := by decide +kernel
theorem dX10_plan_21 : decode cX10_plan 21 = .ok (.i2l, 1) := by decide +kernel
theorem dX10_plan_22 : decode cX10_plan 22 = .ok (.lconst 0, 1) := by decide +kernel
theorem dX10_plan_23 : decode cX10_plan 23 = .ok (.iload_n 2, 1) := by decide +kernel
theorem dX10_plan_24 : decode cX10_plan 24 = .ok (.i2l, 1) := by decide +kernel
theorem dX10_plan_25 : decode cX10_plan 25 = .ok (.invokestatic 98, 3) := by decide +kernel
theorem dX10_plan_28 : decode cX10_plan 28 = .ok (.ifCond .ne 7, 3) := by decide +kernel
theorem dX10_plan_31 : decode cX10_plan 31 = .ok (.ldc_w 388, 3) := by decide +kernel
theorem dX10_plan_34 : decode cX10_plan 34 = .ok (.ireturn, 1) := by decide +kernel
theorem dX10_plan_35 : decode cX10_plan 35 = .ok (.iconst 1, 1) := by decide +kernel
theorem dX10_plan_36 : decode cX10_plan 36 = .ok (.istore 4, 2) := by decide +kernel
theorem dX10_plan_38 : decode cX10_plan 38 = .ok (.iconst 0, 1) := by decide +kernel
theorem dX10_plan_39 : decode cX10_plan 39 = .ok (.istore 5, 2) := by decide +kernel
theorem dX10_plan_41 : decode cX10_plan 41 = .ok (.iload 5, 2) := by decide +kernel
theorem dX10_plan_43 : decode cX10_plan 43 = .ok (.iload_n 2, 1) := by decide +kernel
theorem dX10_plan_44 : decode cX10_plan 44 = .ok (.if_icmp .ge 16, 3) := by decide +kernel
theorem dX10_plan_47 : decode cX10_plan 47 = .ok (.iload 4, 2) := by decide +kernel
theorem dX10_plan_49 : decode cX10_plan 49 = .ok (.bipush 6, 2) := by decide +kernel
theorem dX10_plan_51 : decode cX10_plan 51 = .ok (.imul, 1) := by decide +kernel
theorem dX10_plan_52 : decode cX10_plan 52 = .ok (.istore 4, 2) := by decide +kernel
theorem dX10_plan_54 : decode cX10_plan 54 = .ok (.iinc 5 1, 3) := by decide +kernel
theorem dX10_plan_57 : decode cX10_plan 57 = .ok (.goto (-16), 3) := by decide +kernel
theorem dX10_plan_60 : decode cX10_plan 60 = .ok (.iconst (-1), 1) := by decide +kernel
theorem dX10_plan_61 : decode cX10_plan 61 = .ok (.istore 5, 2) := by decide +kernel
theorem dX10_plan_63 : decode cX10_plan 63 = .ok (.iconst 0, 1) := by decide +kernel
theorem dX10_plan_64 : decode cX10_plan 64 = .ok (.istore 6, 2) := by decide +kernel
theorem dX10_plan_66 : decode cX10_plan 66 = .ok (.iconst 0, 1) := by decide +kernel
theorem dX10_plan_67 : decode cX10_plan 67 = .ok (.istore 7, 2) := by decide +kernel
theorem dX10_plan_69 : decode cX10_plan 69 = .ok (.iload 7, 2) := by decide +kernel
theorem dX10_plan_71 : decode cX10_plan 71 = .ok (.iload 4, 2) := by decide +kernel
theorem dX10_plan_73 : decode cX10_plan 73 = .ok (.if_icmp .ge 80, 3) := by decide +kernel
theorem dX10_plan_76 : decode cX10_plan 76 = .ok (.iload 7, 2) := by decide +kernel
theorem dX10_plan_78 : decode cX10_plan 78 = .ok (.istore 8, 2) := by decide +kernel
theorem dX10_plan_80 : decode cX10_plan 80 = .ok (.iload_n 2, 1) := by decide +kernel
theorem dX10_plan_81 : decode cX10_plan 81 = .ok (.iconst 1, 1) := by decide +kernel
theorem dX10_plan_82 : decode cX10_plan 82 = .ok (.isub, 1) := by decide +kernel
theorem dX10_plan_83 : decode cX10_plan 83 = .ok (.istore 9, 2) := by decide +kernel
theorem dX10_plan_85 : decode cX10_plan 85 = .ok (.iload 9, 2) := by decide +kernel
theorem dX10_plan_87 : decode cX10_plan 87 = .ok (.ifCond .lt 28, 3) := by decide +kernel
theorem dX10_plan_90 : decode cX10_plan 90 = .ok (.aload_n 0, 1) := by decide +kernel
theorem dX10_plan_91 : decode cX10_plan 91 = .ok (.getfield 71, 3) := by decide +kernel
theorem dX10_plan_94 : decode cX10_plan 94 = .ok (.iload 9, 2) := by decide +kernel
theorem dX10_plan_96 : decode cX10_plan 96 = .ok (.iload 8, 2) := by decide +kernel
theorem dX10_plan_98 : decode cX10_plan 98 = .ok (.bipush 6, 2) := by decide +kernel
theorem dX10_plan_100 : decode cX10_plan 100 = .ok (.irem, 1) := by decide +kernel
theorem dX10_plan_101 : decode cX10_plan 101 = .ok (.iastore, 1) := by decide +kernel
theorem dX10_plan_102 : decode cX10_plan 102 = .ok (.iload 8, 2) := by decide +kernel
theorem dX10_plan_104 : decode cX10_plan 104 = .ok (.bipush 6, 2) := by decide +kernel
theorem dX10_plan_106 : decode cX10_plan 106 = .ok (.idiv, 1) := by decide +kernel
theorem dX10_plan_107 : decode cX10_plan 107 = .ok (.istore 8, 2) := by decide +kernel
theorem dX10_plan_109 : decode cX10_plan 109 = .ok (.iinc 9 (-1), 3) := by decide +kernel
theorem dX10_plan_112 : decode cX10_plan 112 = .ok (.goto (-27), 3) := by decide +kernel
theorem dX10_plan_115 : decode cX10_plan 115 = .ok (.aload_n 0, 1) := by decide +kernel
theorem dX10_plan_116 : decode cX10_plan 116 = .ok (.iload_n 1, 1) := by decide +kernel
theorem dX10_plan_117 : decode cX10_plan 117 = .ok (.iload_n 2, 1) := by decide +kernel
theorem dX10_plan_118 : decode cX10_plan 118 = .ok (.invokevirtual 494, 3) := by decide +kernel
theorem dX10_plan_121 : decode cX10_plan 121 = .ok (.istore 9, 2) := by decide +kernel
theorem dX10_plan_123 : decode cX10_plan 123 = .ok (.iload 5, 2) := by decide +kernel
theorem dX10_plan_125 : decode cX10_plan 125 = .ok (.iconst (-1), 1) := by decide +kernel
theorem dX10_plan_126 : decode cX10_plan 126 = .ok (.if_icmp .eq 13, 3) := by decide +kernel
theorem dX10_plan_129 : decode cX10_plan 129 = .ok (.iload 9, 2) := by decide +kernel
theorem dX10_plan_131 : decode cX10_plan 131 = .ok (.iload 6, 2) := by decide +kernel
theorem dX10_plan_133 : decode cX10_plan 133 = .ok (.if_icmp .gt 6, 3) := by decide +kernel
theorem dX10_plan_136 : decode cX10_plan 136 = .ok (.goto 11, 3) := by decide +kernel
theorem dX10_plan_139 : decode cX10_plan 139 = .ok (.iload 7, 2) := by decide +kernel
theorem dX10_plan_141 : decode cX10_plan 141 = .ok (.istore 5, 2) := by decide +kernel
theorem dX10_plan_143 : decode cX10_plan 143 = .ok (.iload 9, 2) := by decide +kernel
theorem dX10_plan_145 : decode cX10_plan 145 = .ok (.istore 6, 2) := by decide +kernel
theorem dX10_plan_147 : decode cX10_plan 147 = .ok (.iinc 7 1, 3) := by decide +kernel
theorem dX10_plan_150 : decode cX10_plan 150 = .ok (.goto (-81), 3) := by decide +kernel
theorem dX10_plan_153 : decode cX10_plan 153 = .ok (.iload_n 3, 1) := by decide +kernel
theorem dX10_plan_154 : decode cX10_plan 154 = .ok (.ifCond .ne 6, 3) := by decide +kernel
theorem dX10_plan_157 : decode cX10_plan 157 = .ok (.iload 6, 2) := by decide +kernel
theorem dX10_plan_159 : decode cX10_plan 159 = .ok (.ireturn, 1) := by decide +kernel
theorem dX10_plan_160 : decode cX10_plan 160 = .ok (.iload_n 2, 1) := by decide +kernel
theorem dX10_plan_161 : decode cX10_plan 161 = .ok (.istore 7, 2) := by decide +kernel
theorem dX10_plan_163 : decode cX10_plan 163 = .ok (.iload 7, 2) := by decide +kernel
theorem dX10_plan_165 : decode cX10_plan 165 = .ok (.iload_n 3, 1) := by decide +kernel
theorem dX10_plan_166 : decode cX10_plan 166 = .ok (.if_icmp .le 16, 3) := by decide +kernel
theorem dX10_plan_169 : decode cX10_plan 169 = .ok (.iload 5, 2) := by decide +kernel
theorem dX10_plan_171 : decode cX10_plan 171 = .ok (.bipush 6, 2) := by decide +kernel
theorem dX10_plan_173 : decode cX10_plan 173 = .ok (.idiv, 1) := by decide +kernel
theorem dX10_plan_174 : decode cX10_plan 174 = .ok (.istore 5, 2) := by decide +kernel
theorem dX10_plan_176 : decode cX10_plan 176 = .ok (.iinc 7 (-1), 3) := by decide +kernel
theorem dX10_plan_179 : decode cX10_plan 179 = .ok (.goto (-16), 3) := by decide +kernel
theorem dX10_plan_182 : decode cX10_plan 182 = .ok (.iload 5, 2) := by decide +kernel
theorem dX10_plan_184 : decode cX10_plan 184 = .ok (.bipush 6, 2) := by decide +kernel
theorem dX10_plan_186 : decode cX10_plan 186 = .ok (.irem, 1) := by decide +kernel
theorem dX10_plan_187 : decode cX10_plan 187 = .ok (.ireturn, 1) := by decide +kernel
