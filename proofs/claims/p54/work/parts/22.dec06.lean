theorem dX10_rests_13 : decode cX10_rests 13 = .ok (.aload_n 0, 1) := by decide +kernel
theorem dX10_rests_14 : decode cX10_rests 14 = .ok (.getfield 13, 3) := by decide +kernel
theorem dX10_rests_17 : decode cX10_rests 17 = .ok (.iconst 1, 1) := by decide +kernel
theorem dX10_rests_18 : decode cX10_rests 18 = .ok (.iaload, 1) := by decide +kernel
theorem dX10_rests_19 : decode cX10_rests 19 = .ok (.if_icmp .gt 18, 3) := by decide +kernel
theorem dX10_rests_22 : decode cX10_rests 22 = .ok (.aload_n 0, 1) := by decide +kernel
theorem dX10_rests_23 : decode cX10_rests 23 = .ok (.invokevirtual 295, 3) := by decide +kernel
theorem dX10_rests_26 : decode cX10_rests 26 = .ok (.ifCond .eq 11, 3) := by decide +kernel
theorem dX10_rests_29 : decode cX10_rests 29 = .ok (.aload_n 0, 1) := by decide +kernel
theorem dX10_rests_30 : decode cX10_rests 30 = .ok (.invokevirtual 295, 3) := by decide +kernel
theorem dX10_rests_33 : decode cX10_rests 33 = .ok (.iconst 3, 1) := by decide +kernel
theorem dX10_rests_34 : decode cX10_rests 34 = .ok (.if_icmp .le 6, 3) := by decide +kernel
theorem dX10_rests_37 : decode cX10_rests 37 = .ok (.bipush (-2), 2) := by decide +kernel
theorem dX10_rests_39 : decode cX10_rests 39 = .ok (.ireturn, 1) := by decide +kernel
theorem dX10_rests_40 : decode cX10_rests 40 = .ok (.iconst 1, 1) := by decide +kernel
theorem dX10_rests_41 : decode cX10_rests 41 = .ok (.istore_n 2, 1) := by decide +kernel
theorem dX10_rests_42 : decode cX10_rests 42 = .ok (.iconst 0, 1) := by decide +kernel
theorem dX10_rests_43 : decode cX10_rests 43 = .ok (.istore_n 3, 1) := by decide +kernel
theorem dX10_rests_44 : decode cX10_rests 44 = .ok (.iload_n 3, 1) := by decide +kernel
theorem dX10_rests_45 : decode cX10_rests 45 = .ok (.aload_n 0, 1) := by decide +kernel
theorem dX10_rests_46 : decode cX10_rests 46 = .ok (.invokevirtual 295, 3) := by decide +kernel
theorem dX10_rests_49 : decode cX10_rests 49 = .ok (.if_icmp .ge 15, 3) := by decide +kernel
theorem dX10_rests_52 : decode cX10_rests 52 = .ok (.iload_n 2, 1) := by decide +kernel
theorem dX10_rests_53 : decode cX10_rests 53 = .ok (.iload_n 1, 1) := by decide +kernel
theorem dX10_rests_54 : decode cX10_rests 54 = .ok (.iconst 1, 1) := by decide +kernel
theorem dX10_rests_55 : decode cX10_rests 55 = .ok (.iadd, 1) := by decide +kernel
theorem dX10_rests_56 : decode cX10_rests 56 = .ok (.imul, 1) := by decide +kernel
theorem dX10_rests_57 : decode cX10_rests 57 = .ok (.istore_n 2, 1) := by decide +kernel
theorem dX10_rests_58 : decode cX10_rests 58 = .ok (.iinc 3 1, 3) := by decide +kernel
theorem dX10_rests_61 : decode cX10_rests 61 = .ok (.goto (-17), 3) := by decide +kernel
theorem dX10_rests_64 : decode cX10_rests 64 = .ok (.aload_n 0, 1) := by decide +kernel
theorem dX10_rests_65 : decode cX10_rests 65 = .ok (.invokevirtual 360, 3) := by decide +kernel
theorem dX10_rests_68 : decode cX10_rests 68 = .ok (.iconst 0, 1) := by decide +kernel
theorem dX10_rests_69 : decode cX10_rests 69 = .ok (.istore_n 3, 1) := by decide +kernel
theorem dX10_rests_70 : decode cX10_rests 70 = .ok (.iconst 0, 1) := by decide +kernel
theorem dX10_rests_71 : decode cX10_rests 71 = .ok (.istore 4, 2) := by decide +kernel
theorem dX10_rests_73 : decode cX10_rests 73 = .ok (.iload 4, 2) := by decide +kernel
theorem dX10_rests_75 : decode cX10_rests 75 = .ok (.iload_n 2, 1) := by decide +kernel
theorem dX10_rests_76 : decode cX10_rests 76 = .ok (.if_icmp .ge 75, 3) := by decide +kernel
theorem dX10_rests_79 : decode cX10_rests 79 = .ok (.iload 4, 2) := by decide +kernel
theorem dX10_rests_81 : decode cX10_rests 81 = .ok (.istore 5, 2) := by decide +kernel
theorem dX10_rests_83 : decode cX10_rests 83 = .ok (.iconst 0, 1) := by decide +kernel
theorem dX10_rests_84 : decode cX10_rests 84 = .ok (.istore 6, 2) := by decide +kernel
theorem dX10_rests_86 : decode cX10_rests 86 = .ok (.iload 6, 2) := by decide +kernel
theorem dX10_rests_88 : decode cX10_rests 88 = .ok (.aload_n 0, 1) := by decide +kernel
theorem dX10_rests_89 : decode cX10_rests 89 = .ok (.invokevirtual 295, 3) := by decide +kernel
theorem dX10_rests_92 : decode cX10_rests 92 = .ok (.if_icmp .ge 38, 3) := by decide +kernel
theorem dX10_rests_95 : decode cX10_rests 95 = .ok (.aload_n 0, 1) := by decide +kernel
theorem dX10_rests_96 : decode cX10_rests 96 = .ok (.iload 6, 2) := by decide +kernel
theorem dX10_rests_98 : decode cX10_rests 98 = .ok (.iconst 0, 1) := by decide +kernel
theorem dX10_rests_99 : decode cX10_rests 99 = .ok (.iload 5, 2) := by decide +kernel
theorem dX10_rests_101 : decode cX10_rests 101 = .ok (.iload_n 1, 1) := by decide +kernel
theorem dX10_rests_102 : decode cX10_rests 102 = .ok (.iconst 1, 1) := by decide +kernel
theorem dX10_rests_103 : decode cX10_rests 103 = .ok (.iadd, 1) := by decide +kernel
theorem dX10_rests_104 : decode cX10_rests 104 = .ok (.irem, 1) := by decide +kernel
theorem dX10_rests_105 : decode cX10_rests 105 = .ok (.invokevirtual 272, 3) := by decide +kernel
theorem dX10_rests_108 : decode cX10_rests 108 = .ok (.aload_n 0, 1) := by decide +kernel
theorem dX10_rests_109 : decode cX10_rests 109 = .ok (.iload 6, 2) := by decide +kernel
theorem dX10_rests_111 : decode cX10_rests 111 = .ok (.iconst 1, 1) := by decide +kernel
theorem dX10_rests_112 : decode cX10_rests 112 = .ok (.iconst 0, 1) := by decide +kernel
theorem dX10_rests_113 : decode cX10_rests 113 = .ok (.invokevirtual 272, 3) := by decide +kernel
theorem dX10_rests_116 : decode cX10_rests 116 = .ok (.iload 5, 2) := by decide +kernel
theorem dX10_rests_118 : decode cX10_rests 118 = .ok (.iload_n 1, 1) := by decide +kernel
theorem dX10_rests_119 : decode cX10_rests 119 = .ok (.iconst 1, 1) := by decide +kernel
theorem dX10_rests_120 : decode cX10_rests 120 = .ok (.iadd, 1) := by decide +kernel
theorem dX10_rests_121 : decode cX10_rests 121 = .ok (.idiv, 1) := by decide +kernel
theorem dX10_rests_122 : decode cX10_rests 122 = .ok (.istore 5, 2) := by decide +kernel
theorem dX10_rests_124 : decode cX10_rests 124 = .ok (.iinc 6 1, 3) := by decide +kernel
theorem dX10_rests_127 : decode cX10_rests 127 = .ok (.goto (-41), 3) := by decide +kernel
theorem dX10_rests_130 : decode cX10_rests 130 = .ok (.iload_n 3, 1) := by decide +kernel
theorem dX10_rests_131 : decode cX10_rests 131 = .ok (.aload_n 0, 1) := by decide +kernel
theorem dX10_rests_132 : decode cX10_rests 132 = .ok (.invokevirtual 416, 3) := by decide +kernel
theorem dX10_rests_135 : decode cX10_rests 135 = .ok (.ifCond .ne 7, 3) := by decide +kernel
theorem dX10_rests_138 : decode cX10_rests 138 = .ok (.iconst 1, 1) := by decide +kernel
theorem dX10_rests_139 : decode cX10_rests 139 = .ok (.goto 4, 3) := by decide +kernel
theorem dX10_rests_142 : decode cX10_rests 142 = .ok (.iconst 0, 1) := by decide +kernel
theorem dX10_rests_143 : decode cX10_rests 143 = .ok (.iadd, 1) := by decide +kernel
theorem dX10_rests_144 : decode cX10_rests 144 = .ok (.istore_n 3, 1) := by decide +kernel
theorem dX10_rests_145 : decode cX10_rests 145 = .ok (.iinc 4 1, 3) := by decide +kernel
theorem dX10_rests_148 : decode cX10_rests 148 = .ok (.goto (-75), 3) := by decide +kernel
theorem dX10_rests_151 : decode cX10_rests 151 = .ok (.aload_n 0, 1) := by decide +kernel
theorem dX10_rests_152 : decode cX10_rests 152 = .ok (.invokevirtual 367, 3) := by decide +kernel
theorem dX10_rests_155 : decode cX10_rests 155 = .ok (.iload_n 3, 1) := by decide +kernel
theorem dX10_rests_156 : decode cX10_rests 156 = .ok (.ireturn, 1) := by decide +kernel
theorem dX10_topSeen_0 : decode cX10_topSeen 0 = .ok (.iconst 0, 1) := by decide +kernel
theorem dX10_topSeen_1 : decode cX10_topSeen 1 = .ok (.istore_n 2, 1) := by decide +kernel
theorem dX10_topSeen_2 : decode cX10_topSeen 2 = .ok (.iconst 0, 1) := by decide +kernel
theorem dX10_topSeen_3 : decode cX10_topSeen 3 = .ok (.istore_n 3, 1) := by decide +kernel
theorem dX10_topSeen_4 : decode cX10_topSeen 4 = .ok (.iload_n 3, 1) := by decide +kernel
theorem dX10_topSeen_5 : decode cX10_topSeen 5 = .ok (.aload_n 0, 1) := by decide +kernel
theorem dX10_topSeen_6 : decode cX10_topSeen 6 = .ok (.invokevirtual 295, 3) := by decide +kernel
theorem dX10_topSeen_9 : decode cX10_topSeen 9 = .ok (.if_icmp .ge 29, 3) := by decide +kernel
theorem dX10_topSeen_12 : decode cX10_topSeen 12 = .ok (.iload_n 3, 1) := by decide +kernel
theorem dX10_topSeen_13 : decode cX10_topSeen 13 = .ok (.iload_n 1, 1) := by decide +kernel
theorem dX10_topSeen_14 : decode cX10_topSeen 14 = .ok (.if_icmp .ne 7, 3) := by decide +kernel
theorem dX10_topSeen_17 : decode cX10_topSeen 17 = .ok (.iload_n 2, 1) := by decide +kernel
theorem dX10_topSeen_18 : decode cX10_topSeen 18 = .ok (.goto 13, 3) := by decide +kernel
theorem dX10_topSeen_21 : decode cX10_topSeen 21 = .ok (.iload_n 2, 1) := by decide +kernel
theorem dX10_topSeen_22 : decode cX10_topSeen 22 = .ok (.aload_n 0, 1) := by decide +kernel
theorem dX10_topSeen_23 : decode cX10_topSeen 23 = .ok (.iload_n 1, 1) := by decide +kernel
theorem dX10_topSeen_24 : decode cX10_topSeen 24 = .ok (.iload_n 3, 1) := by decide +kernel
theorem dX10_topSeen_25 : decode cX10_topSeen 25 = .ok (.invokevirtual 293, 3) := by decide +kernel
theorem dX10_topSeen_28 : decode cX10_topSeen 28 = .ok (.invokestatic 298, 3) := by decide +kernel
theorem dX10_topSeen_31 : decode cX10_topSeen 31 = .ok (.istore_n 2, 1) := by decide +kernel
theorem dX10_topSeen_32 : decode cX10_topSeen 32 = .ok (.iinc 3 1, 3) := by decide +kernel
theorem dX10_topSeen_35 : decode cX10_topSeen 35 = .ok (.goto (-31), 3) := by decide +kernel
theorem dX10_topSeen_38 : decode cX10_topSeen 38 = .ok (.iload_n 2, 1) := by decide +kernel
theorem dX10_topSeen_39 : decode cX10_topSeen 39 = .ok (.ireturn, 1) := by decide +kernel
theorem dX10_firstTop_0 : decode cX10_firstTop 0 = .ok (.aload_n 0, 1) := by decide +kernel
theorem dX10_firstTop_1 : decode cX10_firstTop 1 = .ok (.iload_n 1, 1) := by decide +kernel
theorem dX10_firstTop_2 : decode cX10_firstTop 2 = .ok (.invokevirtual 421, 3) := by decide +kernel
theorem dX10_firstTop_5 : decode cX10_firstTop 5 = .ok (.istore_n 2, 1) := by decide +kernel
theorem dX10_firstTop_6 : decode cX10_firstTop 6 = .ok (.iconst 0, 1) := by decide +kernel
theorem dX10_firstTop_7 : decode cX10_firstTop 7 = .ok (.istore_n 3, 1) := by decide +kernel
theorem dX10_firstTop_8 : decode cX10_firstTop 8 = .ok (.iload_n 3, 1) := by decide +kernel
theorem dX10_firstTop_9 : decode cX10_firstTop 9 = .ok (.aload_n 0, 1) := by decide +kernel
theorem dX10_firstTop_10 : decode cX10_firstTop 10 = .ok (.invokevirtual 295, 3) := by decide +kernel
theorem dX10_firstTop_13 : decode cX10_firstTop 13 = .ok (.if_icmp .ge 26, 3) := by decide +kernel
theorem dX10_firstTop_16 : decode cX10_firstTop 16 = .ok (.iload_n 3, 1) := by decide +kernel
theorem dX10_firstTop_17 : decode cX10_firstTop 17 = .ok (.iload_n 1, 1) := by decide +kernel
theorem dX10_firstTop_18 : decode cX10_firstTop 18 = .ok (.if_icmp .eq 15, 3) := by decide +kernel
theorem dX10_firstTop_21 : decode cX10_firstTop 21 = .ok (.aload_n 0, 1) := by decide +kernel
theorem dX10_firstTop_22 : decode cX10_firstTop 22 = .ok (.iload_n 1, 1) := by decide +kernel
theorem dX10_firstTop_23 : decode cX10_firstTop 23 = .ok (.iload_n 3, 1) := by decide +kernel
theorem dX10_firstTop_24 : decode cX10_firstTop 24 = .ok (.invokevirtual 293, 3) := by decide +kernel
theorem dX10_firstTop_27 : decode cX10_firstTop 27 = .ok (.iload_n 2, 1) := by decide +kernel
theorem dX10_firstTop_28 : decode cX10_firstTop 28 = .ok (.if_icmp .ne 5, 3) := by decide +kernel
theorem dX10_firstTop_31 : decode cX10_firstTop 31 = .ok (.iload_n 3, 1) := by decide +kernel
theorem dX10_firstTop_32 : decode cX10_firstTop 32 = .ok (.ireturn, 1) := by decide +kernel
theorem dX10_firstTop_33 : decode cX10_firstTop 33 = .ok (.iinc 3 1, 3) := by decide +kernel
theorem dX10_firstTop_36 : decode cX10_firstTop 36 = .ok (.goto (-28), 3) := by decide +kernel
theorem dX10_firstTop_39 : decode cX10_firstTop 39 = .ok (.iconst (-1), 1) := by decide +kernel
theorem dX10_firstTop_40 : decode cX10_firstTop 40 = .ok (.ireturn, 1) := by decide +kernel
theorem dX10_does_0 : decode cX10_does 0 = .ok (.aload_n 0, 1) := by decide +kernel
theorem dX10_does_1 : decode cX10_does 1 = .ok (.iload_n 1, 1) := by decide +kernel
theorem dX10_does_2 : decode cX10_does 2 = .ok (.iload_n 2, 1) := by decide +kernel
theorem dX10_does_3 : decode cX10_does 3 = .ok (.iload_n 3, 1) := by decide +kernel
theorem dX10_does_4 : decode cX10_does 4 = .ok (.iload 4, 2) := by decide +kernel
theorem dX10_does_6 : decode cX10_does 6 = .ok (.iload 5, 2) := by decide +kernel
theorem dX10_does_8 : decode cX10_does 8 = .ok (.invokevirtual 347, 3) := by decide +kernel
theorem dX10_does_11 : decode cX10_does 11 = .ok (.aload_n 0, 1) := by decide +kernel
theorem dX10_does_12 : decode cX10_does 12 = .ok (.getfield 56, 3) := by decide +kernel
theorem dX10_does_15 : decode cX10_does 15 = .ok (.iload_n 1, 1) := by decide +kernel
theorem dX10_does_16 : decode cX10_does 16 = .ok (.iload_n 3, 1) := by decide +kernel
theorem dX10_does_17 : decode cX10_does 17 = .ok (.iastore, 1) := by decide +kernel
theorem dX10_does_18 : decode cX10_does 18 = .ok (.aload_n 0, 1) := by decide +kernel
theorem dX10_does_19 : decode cX10_does 19 = .ok (.getfield 59, 3) := by decide +kernel
theorem dX10_does_22 : decode cX10_does 22 = .ok (.iload_n 1, 1) := by decide +kernel
theorem dX10_does_23 : decode cX10_does 23 = .ok (.iload_n 2, 1) := by decide +kernel
theorem dX10_does_24 : decode cX10_does 24 = .ok (.iastore, 1) := by decide +kernel
theorem dX10_does_25 : decode cX10_does 25 = .ok (.return_, 1) := by decide +kernel
theorem dX10_goesHisWay_0 : decode cX10_goesHisWay 0 = .ok (.aload_n 0, 1) := by decide +kernel
theorem dX10_goesHisWay_1 : decode cX10_goesHisWay 1 = .ok (.iload_n 1, 1) := by decide +kernel
theorem dX10_goesHisWay_2 : decode cX10_goesHisWay 2 = .ok (.iconst 2, 1) := by decide +kernel
theorem dX10_goesHisWay_3 : decode cX10_goesHisWay 3 = .ok (.invokevirtual 276, 3) := by decide +kernel
theorem dX10_goesHisWay_6 : decode cX10_goesHisWay 6 = .ok (.istore_n 2, 1) := by decide +kernel
theorem dX10_goesHisWay_7 : decode cX10_goesHisWay 7 = .ok (.iload_n 2, 1) := by decide +kernel
theorem dX10_goesHisWay_8 : decode cX10_goesHisWay 8 = .ok (.iconst 5, 1) := by decide +kernel
theorem dX10_goesHisWay_9 : decode cX10_goesHisWay 9 = .ok (.if_icmp .ne 44, 3) := by decide +kernel
theorem dX10_goesHisWay_12 : decode cX10_goesHisWay 12 = .ok (.aload_n 0, 1) := by decide +kernel
theorem dX10_goesHisWay_13 : decode cX10_goesHisWay 13 = .ok (.iload_n 1, 1) := by decide +kernel
theorem dX10_goesHisWay_14 : decode cX10_goesHisWay 14 = .ok (.invokevirtual 389, 3) := by decide +kernel
theorem dX10_goesHisWay_17 : decode cX10_goesHisWay 17 = .ok (.aload_n 0, 1) := by decide +kernel
theorem dX10_goesHisWay_18 : decode cX10_goesHisWay 18 = .ok (.iload_n 1, 1) := by decide +kernel
theorem dX10_goesHisWay_19 : decode cX10_goesHisWay 19 = .ok (.iconst 1, 1) := by decide +kernel
theorem dX10_goesHisWay_20 : decode cX10_goesHisWay 20 = .ok (.invokevirtual 400, 3) := by decide +kernel
theorem dX10_goesHisWay_23 : decode cX10_goesHisWay 23 = .ok (.aload_n 0, 1) := by decide +kernel
theorem dX10_goesHisWay_24 : decode cX10_goesHisWay 24 = .ok (.iload_n 1, 1) := by decide +kernel
theorem dX10_goesHisWay_25 : decode cX10_goesHisWay 25 = .ok (.aload_n 0, 1) := by decide +kernel
theorem dX10_goesHisWay_26 : decode cX10_goesHisWay 26 = .ok (.getfield 53, 3) := by decide +kernel
theorem dX10_goesHisWay_29 : decode cX10_goesHisWay 29 = .ok (.iconst 1, 1) := by decide +kernel
theorem dX10_goesHisWay_30 : decode cX10_goesHisWay 30 = .ok (.iaload, 1) := by decide +kernel
theorem dX10_goesHisWay_31 : decode cX10_goesHisWay 31 = .ok (.aload_n 0, 1) := by decide +kernel
theorem dX10_goesHisWay_32 : decode cX10_goesHisWay 32 = .ok (.getfield 53, 3) := by decide +kernel
theorem dX10_goesHisWay_35 : decode cX10_goesHisWay 35 = .ok (.iconst 2, 1) := by decide +kernel
theorem dX10_goesHisWay_36 : decode cX10_goesHisWay 36 = .ok (.iaload, 1) := by decide +kernel
theorem dX10_goesHisWay_37 : decode cX10_goesHisWay 37 = .ok (.aload_n 0, 1) := by decide +kernel
theorem dX10_goesHisWay_38 : decode cX10_goesHisWay 38 = .ok (.getfield 53, 3) := by decide +kernel
theorem dX10_goesHisWay_41 : decode cX10_goesHisWay 41 = .ok (.iconst 3, 1) := by decide +kernel
theorem dX10_goesHisWay_42 : decode cX10_goesHisWay 42 = .ok (.iaload, 1) := by decide +kernel
theorem dX10_goesHisWay_43 : decode cX10_goesHisWay 43 = .ok (.aload_n 0, 1) := by decide +kernel
theorem dX10_goesHisWay_44 : decode cX10_goesHisWay 44 = .ok (.getfield 53, 3) := by decide +kernel
theorem dX10_goesHisWay_47 : decode cX10_goesHisWay 47 = .ok (.iconst 4, 1) := by decide +kernel
theorem dX10_goesHisWay_48 : decode cX10_goesHisWay 48 = .ok (.iaload, 1) := by decide +kernel
theorem dX10_goesHisWay_49 : decode cX10_goesHisWay 49 = .ok (.invokevirtual 424, 3) := by decide +kernel
theorem dX10_goesHisWay_52 : decode cX10_goesHisWay 52 = .ok (.return_, 1) := by decide +kernel
theorem dX10_goesHisWay_53 : decode cX10_goesHisWay 53 = .ok (.aload_n 0, 1) := by decide +kernel
theorem dX10_goesHisWay_54 : decode cX10_goesHisWay 54 = .ok (.iload_n 1, 1) := by decide +kernel
theorem dX10_goesHisWay_55 : decode cX10_goesHisWay 55 = .ok (.iconst 1, 1) := by decide +kernel
theorem dX10_goesHisWay_56 : decode cX10_goesHisWay 56 = .ok (.iconst 0, 1) := by decide +kernel
theorem dX10_goesHisWay_57 : decode cX10_goesHisWay 57 = .ok (.iconst 0, 1) := by decide +kernel
theorem dX10_goesHisWay_58 : decode cX10_goesHisWay 58 = .ok (.iconst (-1), 1) := by decide +kernel
theorem dX10_goesHisWay_59 : decode cX10_goesHisWay 59 = .ok (.invokevirtual 424, 3) := by decide +kernel
theorem dX10_goesHisWay_62 : decode cX10_goesHisWay 62 = .ok (.iload_n 2, 1) := by decide +kernel
theorem dX10_goesHisWay_63 : decode cX10_goesHisWay 63 = .ok (.ifCond .ne 48, 3) := by decide +kernel
theorem dX10_goesHisWay_66 : decode cX10_goesHisWay 66 = .ok (.iconst 0, 1) := by decide +kernel
theorem dX10_goesHisWay_67 : decode cX10_goesHisWay 67 = .ok (.aload_n 0, 1) := by decide +kernel
theorem dX10_goesHisWay_68 : decode cX10_goesHisWay 68 = .ok (.iload_n 1, 1) := by decide +kernel
theorem dX10_goesHisWay_69 : decode cX10_goesHisWay 69 = .ok (.iconst 0, 1) := by decide +kernel
theorem dX10_goesHisWay_70 : decode cX10_goesHisWay 70 = .ok (.invokevirtual 276, 3) := by decide +kernel
theorem dX10_goesHisWay_73 : decode cX10_goesHisWay 73 = .ok (.aload_n 0, 1) := by decide +kernel
theorem dX10_goesHisWay_74 : decode cX10_goesHisWay 74 = .ok (.iload_n 1, 1) := by decide +kernel
theorem dX10_goesHisWay_75 : decode cX10_goesHisWay 75 = .ok (.invokevirtual 279, 3) := by decide +kernel
theorem dX10_goesHisWay_78 : decode cX10_goesHisWay 78 = .ok (.aload_n 0, 1) := by decide +kernel
theorem dX10_goesHisWay_79 : decode cX10_goesHisWay 79 = .ok (.iload_n 1, 1) := by decide +kernel
theorem dX10_goesHisWay_80 : decode cX10_goesHisWay 80 = .ok (.invokevirtual 421, 3) := by decide +kernel
theorem dX10_goesHisWay_83 : decode cX10_goesHisWay 83 = .ok (.isub, 1) := by decide +kernel
theorem dX10_goesHisWay_84 : decode cX10_goesHisWay 84 = .ok (.invokestatic 141, 3) := by decide +kernel
theorem dX10_goesHisWay_87 : decode cX10_goesHisWay 87 = .ok (.invokestatic 298, 3) := by decide +kernel
theorem dX10_goesHisWay_90 : decode cX10_goesHisWay 90 = .ok (.istore_n 3, 1) := by decide +kernel
theorem dX10_goesHisWay_91 : decode cX10_goesHisWay 91 = .ok (.aload_n 0, 1) := by decide +kernel
theorem dX10_goesHisWay_92 : decode cX10_goesHisWay 92 = .ok (.iload_n 1, 1) := by decide +kernel
theorem dX10_goesHisWay_93 : decode cX10_goesHisWay 93 = .ok (.aload_n 0, 1) := by decide +kernel
theorem dX10_goesHisWay_94 : decode cX10_goesHisWay 94 = .ok (.iload_n 1, 1) := by decide +kernel
theorem dX10_goesHisWay_95 : decode cX10_goesHisWay 95 = .ok (.iconst 0, 1) := by decide +kernel
theorem dX10_goesHisWay_96 : decode cX10_goesHisWay 96 = .ok (.invokevirtual 276, 3) := by decide +kernel
theorem dX10_goesHisWay_99 : decode cX10_goesHisWay 99 = .ok (.iload_n 3, 1) := by decide +kernel
theorem dX10_goesHisWay_100 : decode cX10_goesHisWay 100 = .ok (.isub, 1) := by decide +kernel
theorem dX10_goesHisWay_101 : decode cX10_goesHisWay 101 = .ok (.invokevirtual 284, 3) := by decide +kernel
theorem dX10_goesHisWay_104 : decode cX10_goesHisWay 104 = .ok (.aload_n 0, 1) := by decide +kernel
theorem dX10_goesHisWay_105 : decode cX10_goesHisWay 105 = .ok (.getfield 56, 3) := by decide +kernel
theorem dX10_goesHisWay_108 : decode cX10_goesHisWay 108 = .ok (.iload_n 1, 1) := by decide +kernel
theorem dX10_goesHisWay_109 : decode cX10_goesHisWay 109 = .ok (.iload_n 3, 1) := by decide +kernel
theorem dX10_goesHisWay_110 : decode cX10_goesHisWay 110 = .ok (.iastore, 1) := by decide +kernel
theorem dX10_goesHisWay_111 : decode cX10_goesHisWay 111 = .ok (.iload_n 2, 1) := by decide +kernel
theorem dX10_goesHisWay_112 : decode cX10_goesHisWay 112 = .ok (.iconst 1, 1) := by decide +kernel
theorem dX10_goesHisWay_113 : decode cX10_goesHisWay 113 = .ok (.if_icmp .ne 11, 3) := by decide +kernel
theorem dX10_goesHisWay_116 : decode cX10_goesHisWay 116 = .ok (.aload_n 0, 1) := by decide +kernel
theorem dX10_goesHisWay_117 : decode cX10_goesHisWay 117 = .ok (.iload_n 1, 1) := by decide +kernel
theorem dX10_goesHisWay_118 : decode cX10_goesHisWay 118 = .ok (.invokevirtual 427, 3) := by decide +kernel
theorem dX10_goesHisWay_121 : decode cX10_goesHisWay 121 = .ok (.goto 41, 3) := by decide +kernel
theorem dX10_goesHisWay_124 : decode cX10_goesHisWay 124 = .ok (.iload_n 2, 1) := by decide +kernel
theorem dX10_goesHisWay_125 : decode cX10_goesHisWay 125 = .ok (.iconst 2, 1) := by decide +kernel
theorem dX10_goesHisWay_126 : decode cX10_goesHisWay 126 = .ok (.if_icmp .ne 35, 3) := by decide +kernel
theorem dX10_goesHisWay_129 : decode cX10_goesHisWay 129 = .ok (.aload_n 0, 1) := by decide +kernel
theorem dX10_goesHisWay_130 : decode cX10_goesHisWay 130 = .ok (.aload_n 0, 1) := by decide +kernel
theorem dX10_goesHisWay_131 : decode cX10_goesHisWay 131 = .ok (.iload_n 1, 1) := by decide +kernel
theorem dX10_goesHisWay_132 : decode cX10_goesHisWay 132 = .ok (.iconst 3, 1) := by decide +kernel
theorem dX10_goesHisWay_133 : decode cX10_goesHisWay 133 = .ok (.invokevirtual 276, 3) := by decide +kernel
theorem dX10_goesHisWay_136 : decode cX10_goesHisWay 136 = .ok (.invokevirtual 106, 3) := by decide +kernel
theorem dX10_goesHisWay_139 : decode cX10_goesHisWay 139 = .ok (.ifCond .eq 22, 3) := by decide +kernel
theorem dX10_goesHisWay_142 : decode cX10_goesHisWay 142 = .ok (.aload_n 0, 1) := by decide +kernel
theorem dX10_goesHisWay_143 : decode cX10_goesHisWay 143 = .ok (.iload_n 1, 1) := by decide +kernel
theorem dX10_goesHisWay_144 : decode cX10_goesHisWay 144 = .ok (.iconst 3, 1) := by decide +kernel
theorem dX10_goesHisWay_145 : decode cX10_goesHisWay 145 = .ok (.invokevirtual 276, 3) := by decide +kernel
theorem dX10_goesHisWay_148 : decode cX10_goesHisWay 148 = .ok (.iload_n 1, 1) := by decide +kernel
theorem dX10_goesHisWay_149 : decode cX10_goesHisWay 149 = .ok (.if_icmp .eq 12, 3) := by decide +kernel
theorem dX10_goesHisWay_152 : decode cX10_goesHisWay 152 = .ok (.aload_n 0, 1) := by decide +kernel
theorem dX10_goesHisWay_153 : decode cX10_goesHisWay 153 = .ok (.iload_n 1, 1) := by decide +kernel
theorem dX10_goesHisWay_154 : decode cX10_goesHisWay 154 = .ok (.iconst 3, 1) := by decide +kernel
theorem dX10_goesHisWay_155 : decode cX10_goesHisWay 155 = .ok (.invokevirtual 276, 3) := by decide +kernel
theorem dX10_goesHisWay_158 : decode cX10_goesHisWay 158 = .ok (.goto 4, 3) := by decide +kernel
theorem dX10_goesHisWay_161 : decode cX10_goesHisWay 161 = .ok (.iconst (-1), 1) := by decide +kernel
theorem dX10_goesHisWay_162 : decode cX10_goesHisWay 162 = .ok (.istore_n 3, 1) := by decide +kernel
theorem dX10_goesHisWay_163 : decode cX10_goesHisWay 163 = .ok (.iload_n 3, 1) := by decide +kernel
theorem dX10_goesHisWay_164 : decode cX10_goesHisWay 164 = .ok (.iconst (-1), 1) := by decide +kernel
theorem dX10_goesHisWay_165 : decode cX10_goesHisWay 165 = .ok (.if_icmp .eq 63, 3) := by decide +kernel
theorem dX10_goesHisWay_168 : decode cX10_goesHisWay 168 = .ok (.iconst 0, 1) := by decide +kernel
theorem dX10_goesHisWay_169 : decode cX10_goesHisWay 169 = .ok (.aload_n 0, 1) := by decide +kernel
theorem dX10_goesHisWay_170 : decode cX10_goesHisWay 170 = .ok (.iload_n 1, 1) := by decide +kernel
theorem dX10_goesHisWay_171 : decode cX10_goesHisWay 171 = .ok (.invokevirtual 279, 3) := by decide +kernel
theorem dX10_goesHisWay_174 : decode cX10_goesHisWay 174 = .ok (.iload_n 2, 1) := by decide +kernel
theorem dX10_goesHisWay_175 : decode cX10_goesHisWay 175 = .ok (.iconst 1, 1) := by decide +kernel
theorem dX10_goesHisWay_176 : decode cX10_goesHisWay 176 = .ok (.if_icmp .ne 11, 3) := by decide +kernel
theorem dX10_goesHisWay_179 : decode cX10_goesHisWay 179 = .ok (.aload_n 0, 1) := by decide +kernel
theorem dX10_goesHisWay_180 : decode cX10_goesHisWay 180 = .ok (.iload_n 1, 1) := by decide +kernel
theorem dX10_goesHisWay_181 : decode cX10_goesHisWay 181 = .ok (.invokevirtual 421, 3) := by decide +kernel
theorem dX10_goesHisWay_184 : decode cX10_goesHisWay 184 = .ok (.goto 8, 3) := by decide +kernel
theorem dX10_goesHisWay_187 : decode cX10_goesHisWay 187 = .ok (.aload_n 0, 1) := by decide +kernel
theorem dX10_goesHisWay_188 : decode cX10_goesHisWay 188 = .ok (.iload_n 3, 1) := by decide +kernel
theorem dX10_goesHisWay_189 : decode cX10_goesHisWay 189 = .ok (.invokevirtual 279, 3) := by decide +kernel
theorem dX10_goesHisWay_192 : decode cX10_goesHisWay 192 = .ok (.isub, 1) := by decide +kernel
theorem dX10_goesHisWay_193 : decode cX10_goesHisWay 193 = .ok (.invokestatic 298, 3) := by decide +kernel
theorem dX10_goesHisWay_196 : decode cX10_goesHisWay 196 = .ok (.iconst 2, 1) := by decide +kernel
theorem dX10_goesHisWay_197 : decode cX10_goesHisWay 197 = .ok (.idiv, 1) := by decide +kernel
theorem dX10_goesHisWay_198 : decode cX10_goesHisWay 198 = .ok (.istore 4, 2) := by decide +kernel
theorem dX10_goesHisWay_200 : decode cX10_goesHisWay 200 = .ok (.aload_n 0, 1) := by decide +kernel
theorem dX10_goesHisWay_201 : decode cX10_goesHisWay 201 = .ok (.iload_n 1, 1) := by decide +kernel
theorem dX10_goesHisWay_202 : decode cX10_goesHisWay 202 = .ok (.aload_n 0, 1) := by decide +kernel
theorem dX10_goesHisWay_203 : decode cX10_goesHisWay 203 = .ok (.iload_n 1, 1) := by decide +kernel
theorem dX10_goesHisWay_204 : decode cX10_goesHisWay 204 = .ok (.iconst 0, 1) := by decide +kernel
theorem dX10_goesHisWay_205 : decode cX10_goesHisWay 205 = .ok (.invokevirtual 276, 3) := by decide +kernel
theorem dX10_goesHisWay_208 : decode cX10_goesHisWay 208 = .ok (.iload 4, 2) := by decide +kernel
theorem dX10_goesHisWay_210 : decode cX10_goesHisWay 210 = .ok (.isub, 1) := by decide +kernel
theorem dX10_goesHisWay_211 : decode cX10_goesHisWay 211 = .ok (.invokevirtual 284, 3) := by decide +kernel
theorem dX10_goesHisWay_214 : decode cX10_goesHisWay 214 = .ok (.aload_n 0, 1) := by decide +kernel
theorem dX10_goesHisWay_215 : decode cX10_goesHisWay 215 = .ok (.iload_n 3, 1) := by decide +kernel
theorem dX10_goesHisWay_216 : decode cX10_goesHisWay 216 = .ok (.aload_n 0, 1) := by decide +kernel
theorem dX10_goesHisWay_217 : decode cX10_goesHisWay 217 = .ok (.iload_n 3, 1) := by decide +kernel
theorem dX10_goesHisWay_218 : decode cX10_goesHisWay 218 = .ok (.iconst 0, 1) := by decide +kernel
theorem dX10_goesHisWay_219 : decode cX10_goesHisWay 219 = .ok (.invokevirtual 276, 3) := by decide +kernel
theorem dX10_goesHisWay_222 : decode cX10_goesHisWay 222 = .ok (.iload 4, 2) := by decide +kernel
theorem dX10_goesHisWay_224 : decode cX10_goesHisWay 224 = .ok (.iadd, 1) := by decide +kernel
theorem dX10_goesHisWay_225 : decode cX10_goesHisWay 225 = .ok (.invokevirtual 284, 3) := by decide +kernel
theorem dX10_goesHisWay_228 : decode cX10_goesHisWay 228 = .ok (.iload_n 2, 1) := by decide +kernel
theorem dX10_goesHisWay_229 : decode cX10_goesHisWay 229 = .ok (.iconst 3, 1) := by decide +kernel
theorem dX10_goesHisWay_230 : decode cX10_goesHisWay 230 = .ok (.if_icmp .ne 24, 3) := by decide +kernel
theorem dX10_goesHisWay_233 : decode cX10_goesHisWay 233 = .ok (.aload_n 0, 1) := by decide +kernel
theorem dX10_goesHisWay_234 : decode cX10_goesHisWay 234 = .ok (.iload_n 1, 1) := by decide +kernel
theorem dX10_goesHisWay_235 : decode cX10_goesHisWay 235 = .ok (.iconst 1, 1) := by decide +kernel
theorem dX10_goesHisWay_236 : decode cX10_goesHisWay 236 = .ok (.aload_n 0, 1) := by decide +kernel
theorem dX10_goesHisWay_237 : decode cX10_goesHisWay 237 = .ok (.iload_n 1, 1) := by decide +kernel
theorem dX10_goesHisWay_238 : decode cX10_goesHisWay 238 = .ok (.iconst 3, 1) := by decide +kernel
theorem dX10_goesHisWay_239 : decode cX10_goesHisWay 239 = .ok (.invokevirtual 276, 3) := by decide +kernel
theorem dX10_goesHisWay_242 : decode cX10_goesHisWay 242 = .ok (.aload_n 0, 1) := by decide +kernel
theorem dX10_goesHisWay_243 : decode cX10_goesHisWay 243 = .ok (.iload_n 1, 1) := by decide +kernel
theorem dX10_goesHisWay_244 : decode cX10_goesHisWay 244 = .ok (.iconst 0, 1) := by decide +kernel
theorem dX10_goesHisWay_245 : decode cX10_goesHisWay 245 = .ok (.invokevirtual 276, 3) := by decide +kernel
theorem dX10_goesHisWay_248 : decode cX10_goesHisWay 248 = .ok (.invokestatic 141, 3) := by decide +kernel
theorem dX10_goesHisWay_251 : decode cX10_goesHisWay 251 = .ok (.invokevirtual 272, 3) := by decide +kernel
theorem dX10_goesHisWay_254 : decode cX10_goesHisWay 254 = .ok (.return_, 1) := by decide +kernel
theorem dX10_day_0 : decode cX10_day 0 = .ok (.iconst 0, 1) := by decide +kernel
theorem dX10_day_1 : decode cX10_day 1 = .ok (.istore_n 1, 1) := by decide +kernel
theorem dX10_day_2 : decode cX10_day 2 = .ok (.iload_n 1, 1) := by decide +kernel
theorem dX10_day_3 : decode cX10_day 3 = .ok (.aload_n 0, 1) := by decide +kernel
theorem dX10_day_4 : decode cX10_day 4 = .ok (.invokevirtual 295, 3) := by decide +kernel
theorem dX10_day_7 : decode cX10_day 7 = .ok (.if_icmp .ge 14, 3) := by decide +kernel
theorem dX10_day_10 : decode cX10_day 10 = .ok (.aload_n 0, 1) := by decide +kernel
theorem dX10_day_11 : decode cX10_day 11 = .ok (.iload_n 1, 1) := by decide +kernel
theorem dX10_day_12 : decode cX10_day 12 = .ok (.invokevirtual 430, 3) := by decide +kernel
theorem dX10_day_15 : decode cX10_day 15 = .ok (.iinc 1 1, 3) := by decide +kernel
theorem dX10_day_18 : decode cX10_day 18 = .ok (.goto (-16), 3) := by decide +kernel
theorem dX10_day_21 : decode cX10_day 21 = .ok (.aload_n 0, 1) := by decide +kernel
theorem dX10_day_22 : decode cX10_day 22 = .ok (.invokevirtual 337, 3) := by decide +kernel
theorem dX10_day_25 : decode cX10_day 25 = .ok (.istore_n 1, 1) := by decide +kernel
theorem dX10_day_26 : decode cX10_day 26 = .ok (.iconst 0, 1) := by decide +kernel
theorem dX10_day_27 : decode cX10_day 27 = .ok (.istore_n 2, 1) := by decide +kernel
theorem dX10_day_28 : decode cX10_day 28 = .ok (.iload_n 2, 1) := by decide +kernel
theorem dX10_day_29 : decode cX10_day 29 = .ok (.aload_n 0, 1) := by decide +kernel
theorem dX10_day_30 : decode cX10_day 30 = .ok (.invokevirtual 295, 3) := by decide +kernel
theorem dX10_day_33 : decode cX10_day 33 = .ok (.if_icmp .ge 80, 3) := by decide +kernel
theorem dX10_day_36 : decode cX10_day 36 = .ok (.aload_n 0, 1) := by decide +kernel
theorem dX10_day_37 : decode cX10_day 37 = .ok (.iload_n 2, 1) := by decide +kernel
theorem dX10_day_38 : decode cX10_day 38 = .ok (.iconst 4, 1) := by decide +kernel
theorem dX10_day_39 : decode cX10_day 39 = .ok (.aload_n 0, 1) := by decide +kernel
theorem dX10_day_40 : decode cX10_day 40 = .ok (.iload_n 2, 1) := by decide +kernel
theorem dX10_day_41 : decode cX10_day 41 = .ok (.iconst 4, 1) := by decide +kernel
theorem dX10_day_42 : decode cX10_day 42 = .ok (.invokevirtual 276, 3) := by decide +kernel
theorem dX10_day_45 : decode cX10_day 45 = .ok (.aload_n 0, 1) := by decide +kernel
theorem dX10_day_46 : decode cX10_day 46 = .ok (.iload_n 2, 1) := by decide +kernel
theorem dX10_day_47 : decode cX10_day 47 = .ok (.bipush 7, 2) := by decide +kernel
theorem dX10_day_49 : decode cX10_day 49 = .ok (.invokevirtual 276, 3) := by decide +kernel
theorem dX10_day_52 : decode cX10_day 52 = .ok (.aload_n 0, 1) := by decide +kernel
theorem dX10_day_53 : decode cX10_day 53 = .ok (.iload_n 2, 1) := by decide +kernel
theorem dX10_day_54 : decode cX10_day 54 = .ok (.iconst 0, 1) := by decide +kernel
theorem dX10_day_55 : decode cX10_day 55 = .ok (.invokevirtual 276, 3) := by decide +kernel
theorem dX10_day_58 : decode cX10_day 58 = .ok (.imul, 1) := by decide +kernel
theorem dX10_day_59 : decode cX10_day 59 = .ok (.iadd, 1) := by decide +kernel
theorem dX10_day_60 : decode cX10_day 60 = .ok (.aload_n 0, 1) := by decide +kernel
theorem dX10_day_61 : decode cX10_day 61 = .ok (.iload_n 2, 1) := by decide +kernel
theorem dX10_day_62 : decode cX10_day 62 = .ok (.aload_n 0, 1) := by decide +kernel
theorem dX10_day_63 : decode cX10_day 63 = .ok (.getfield 56, 3) := by decide +kernel
theorem dX10_day_66 : decode cX10_day 66 = .ok (.iload_n 2, 1) := by decide +kernel
theorem dX10_day_67 : decode cX10_day 67 = .ok (.iaload, 1) := by decide +kernel
theorem dX10_day_68 : decode cX10_day 68 = .ok (.invokevirtual 351, 3) := by decide +kernel
theorem dX10_day_71 : decode cX10_day 71 = .ok (.iadd, 1) := by decide +kernel
theorem dX10_day_72 : decode cX10_day 72 = .ok (.aload_n 0, 1) := by decide +kernel
theorem dX10_day_73 : decode cX10_day 73 = .ok (.getfield 59, 3) := by decide +kernel
theorem dX10_day_76 : decode cX10_day 76 = .ok (.iload_n 2, 1) := by decide +kernel
theorem dX10_day_77 : decode cX10_day 77 = .ok (.iaload, 1) := by decide +kernel
theorem dX10_day_78 : decode cX10_day 78 = .ok (.aload_n 0, 1) := by decide +kernel
theorem dX10_day_79 : decode cX10_day 79 = .ok (.iload_n 2, 1) := by decide +kernel
theorem dX10_day_80 : decode cX10_day 80 = .ok (.bipush 6, 2) := by decide +kernel
theorem dX10_day_82 : decode cX10_day 82 = .ok (.invokevirtual 276, 3) := by decide +kernel
theorem dX10_day_85 : decode cX10_day 85 = .ok (.imul, 1) := by decide +kernel
theorem dX10_day_86 : decode cX10_day 86 = .ok (.isub, 1) := by decide +kernel
theorem dX10_day_87 : decode cX10_day 87 = .ok (.invokevirtual 272, 3) := by decide +kernel
theorem dX10_day_90 : decode cX10_day 90 = .ok (.aload_n 0, 1) := by decide +kernel
theorem dX10_day_91 : decode cX10_day 91 = .ok (.dup, 1) := by decide +kernel
theorem dX10_day_92 : decode cX10_day 92 = .ok (.getfield 433, 3) := by decide +kernel
theorem dX10_day_95 : decode cX10_day 95 = .ok (.iconst 1, 1) := by decide +kernel
theorem dX10_day_96 : decode cX10_day 96 = .ok (.aload_n 0, 1) := by decide +kernel
theorem dX10_day_97 : decode cX10_day 97 = .ok (.getfield 59, 3) := by decide +kernel
theorem dX10_day_100 : decode cX10_day 100 = .ok (.iload_n 2, 1) := by decide +kernel
theorem dX10_day_101 : decode cX10_day 101 = .ok (.iaload, 1) := by decide +kernel
theorem dX10_day_102 : decode cX10_day 102 = .ok (.isub, 1) := by decide +kernel
theorem dX10_day_103 : decode cX10_day 103 = .ok (.iadd, 1) := by decide +kernel
theorem dX10_day_104 : decode cX10_day 104 = .ok (.putfield 433, 3) := by decide +kernel
theorem dX10_day_107 : decode cX10_day 107 = .ok (.iinc 2 1, 3) := by decide +kernel
theorem dX10_day_110 : decode cX10_day 110 = .ok (.goto (-82), 3) := by decide +kernel
theorem dX10_day_113 : decode cX10_day 113 = .ok (.aload_n 0, 1) := by decide +kernel
theorem dX10_day_114 : decode cX10_day 114 = .ok (.getfield 13, 3) := by decide +kernel
theorem dX10_day_117 : decode cX10_day 117 = .ok (.bipush 11, 2) := by decide +kernel
theorem dX10_day_119 : decode cX10_day 119 = .ok (.dup2, 1) := by decide +kernel
theorem dX10_day_120 : decode cX10_day 120 = .ok (.iaload, 1) := by decide +kernel
theorem dX10_day_121 : decode cX10_day 121 = .ok (.iconst 1, 1) := by decide +kernel
theorem dX10_day_122 : decode cX10_day 122 = .ok (.iadd, 1) := by decide +kernel
theorem dX10_day_123 : decode cX10_day 123 = .ok (.iastore, 1) := by decide +kernel
theorem dX10_day_124 : decode cX10_day 124 = .ok (.iload_n 1, 1) := by decide +kernel
theorem dX10_day_125 : decode cX10_day 125 = .ok (.ireturn, 1) := by decide +kernel
theorem dX10_runs_0 : decode cX10_runs 0 = .ok (.iconst 0, 1) := by decide +kernel
theorem dX10_runs_1 : decode cX10_runs 1 = .ok (.istore_n 2, 1) := by decide +kernel
theorem dX10_runs_2 : decode cX10_runs 2 = .ok (.aload_n 0, 1) := by decide +kernel
theorem dX10_runs_3 : decode cX10_runs 3 = .ok (.iconst 0, 1) := by decide +kernel
theorem dX10_runs_4 : decode cX10_runs 4 = .ok (.putfield 433, 3) := by decide +kernel
theorem dX10_runs_7 : decode cX10_runs 7 = .ok (.iconst 0, 1) := by decide +kernel
theorem dX10_runs_8 : decode cX10_runs 8 = .ok (.istore_n 3, 1) := by decide +kernel
theorem dX10_runs_9 : decode cX10_runs 9 = .ok (.iload_n 3, 1) := by decide +kernel
theorem dX10_runs_10 : decode cX10_runs 10 = .ok (.iload_n 1, 1) := by decide +kernel
theorem dX10_runs_11 : decode cX10_runs 11 = .ok (.if_icmp .ge 16, 3) := by decide +kernel
theorem dX10_runs_14 : decode cX10_runs 14 = .ok (.iload_n 2, 1) := by decide +kernel
theorem dX10_runs_15 : decode cX10_runs 15 = .ok (.aload_n 0, 1) := by decide +kernel
theorem dX10_runs_16 : decode cX10_runs 16 = .ok (.invokevirtual 436, 3) := by decide +kernel
theorem dX10_runs_19 : decode cX10_runs 19 = .ok (.iadd, 1) := by decide +kernel
theorem dX10_runs_20 : decode cX10_runs 20 = .ok (.istore_n 2, 1) := by decide +kernel
theorem dX10_runs_21 : decode cX10_runs 21 = .ok (.iinc 3 1, 3) := by decide +kernel
theorem dX10_runs_24 : decode cX10_runs 24 = .ok (.goto (-15), 3) := by decide +kernel
theorem dX10_runs_27 : decode cX10_runs 27 = .ok (.iload_n 2, 1) := by decide +kernel
theorem dX10_runs_28 : decode cX10_runs 28 = .ok (.ireturn, 1) := by decide +kernel
theorem dX10_isRun_0 : decode cX10_isRun 0 = .ok (.aload_n 0, 1) := by decide +kernel
theorem dX10_isRun_1 : decode cX10_isRun 1 = .ok (.invokevirtual 295, 3) := by decide +kernel
theorem dX10_isRun_4 : decode cX10_isRun 4 = .ok (.ifCond .le 19, 3) := by decide +kernel
theorem dX10_isRun_7 : decode cX10_isRun 7 = .ok (.iload_n 1, 1) := by decide +kernel
theorem dX10_isRun_8 : decode cX10_isRun 8 = .ok (.i2l, 1) := by decide +kernel
theorem dX10_isRun_9 : decode cX10_isRun 9 = .ok (.lconst 1, 1) := by decide +kernel
theorem dX10_isRun_10 : decode cX10_isRun 10 = .ok (.ldc2_w 287, 3) := by decide +kernel
theorem dX10_isRun_13 : decode cX10_isRun 13 = .ok (.invokestatic 98, 3) := by decide +kernel
theorem dX10_isRun_16 : decode cX10_isRun 16 = .ok (.ifCond .eq 7, 3) := by decide +kernel
theorem dX10_isRun_19 : decode cX10_isRun 19 = .ok (.iconst 1, 1) := by decide +kernel
theorem dX10_isRun_20 : decode cX10_isRun 20 = .ok (.goto 4, 3) := by decide +kernel
theorem dX10_isRun_23 : decode cX10_isRun 23 = .ok (.iconst 0, 1) := by decide +kernel
theorem dX10_isRun_24 : decode cX10_isRun 24 = .ok (.ireturn, 1) := by decide +kernel
theorem dX10_run_0 : decode cX10_run 0 = .ok (.aload_n 0, 1) := by decide +kernel
theorem dX10_run_1 : decode cX10_run 1 = .ok (.iload_n 1, 1) := by decide +kernel
theorem dX10_run_2 : decode cX10_run 2 = .ok (.invokevirtual 439, 3) := by decide +kernel
theorem dX10_run_5 : decode cX10_run 5 = .ok (.ifCond .eq 11, 3) := by decide +kernel
theorem dX10_run_8 : decode cX10_run 8 = .ok (.aload_n 0, 1) := by decide +kernel
theorem dX10_run_9 : decode cX10_run 9 = .ok (.iload_n 1, 1) := by decide +kernel
theorem dX10_run_10 : decode cX10_run 10 = .ok (.invokevirtual 442, 3) := by decide +kernel
theorem dX10_run_13 : decode cX10_run 13 = .ok (.goto 5, 3) := by decide +kernel
theorem dX10_run_16 : decode cX10_run 16 = .ok (.bipush (-2), 2) := by decide +kernel
theorem dX10_run_18 : decode cX10_run 18 = .ok (.ireturn, 1) := by decide +kernel
theorem dX10_takesWay_0 : decode cX10_takesWay 0 = .ok (.aload_n 0, 1) := by decide +kernel
theorem dX10_takesWay_1 : decode cX10_takesWay 1 = .ok (.iload_n 1, 1) := by decide +kernel
theorem dX10_takesWay_2 : decode cX10_takesWay 2 = .ok (.iconst 2, 1) := by decide +kernel
theorem dX10_takesWay_3 : decode cX10_takesWay 3 = .ok (.invokevirtual 276, 3) := by decide +kernel
theorem dX10_takesWay_6 : decode cX10_takesWay 6 = .ok (.iload_n 2, 1) := by decide +kernel
theorem dX10_takesWay_7 : decode cX10_takesWay 7 = .ok (.if_icmp .eq 19, 3) := by decide +kernel
theorem dX10_takesWay_10 : decode cX10_takesWay 10 = .ok (.aload_n 0, 1) := by decide +kernel
theorem dX10_takesWay_11 : decode cX10_takesWay 11 = .ok (.iload_n 1, 1) := by decide +kernel
theorem dX10_takesWay_12 : decode cX10_takesWay 12 = .ok (.iconst 3, 1) := by decide +kernel
theorem dX10_takesWay_13 : decode cX10_takesWay 13 = .ok (.iload_n 2, 1) := by decide +kernel
theorem dX10_takesWay_14 : decode cX10_takesWay 14 = .ok (.iconst 3, 1) := by decide +kernel
theorem dX10_takesWay_15 : decode cX10_takesWay 15 = .ok (.if_icmp .ne 7, 3) := by decide +kernel
theorem dX10_takesWay_18 : decode cX10_takesWay 18 = .ok (.iconst 3, 1) := by decide +kernel
theorem dX10_takesWay_19 : decode cX10_takesWay 19 = .ok (.goto 4, 3) := by decide +kernel
theorem dX10_takesWay_22 : decode cX10_takesWay 22 = .ok (.iconst 0, 1) := by decide +kernel
theorem dX10_takesWay_23 : decode cX10_takesWay 23 = .ok (.invokevirtual 272, 3) := by decide +kernel
theorem dX10_takesWay_26 : decode cX10_takesWay 26 = .ok (.aload_n 0, 1) := by decide +kernel
theorem dX10_takesWay_27 : decode cX10_takesWay 27 = .ok (.iload_n 1, 1) := by decide +kernel
theorem dX10_takesWay_28 : decode cX10_takesWay 28 = .ok (.iconst 2, 1) := by decide +kernel
theorem dX10_takesWay_29 : decode cX10_takesWay 29 = .ok (.iload_n 2, 1) := by decide +kernel
theorem dX10_takesWay_30 : decode cX10_takesWay 30 = .ok (.invokevirtual 272, 3) := by decide +kernel
theorem dX10_takesWay_33 : decode cX10_takesWay 33 = .ok (.return_, 1) := by decide +kernel
theorem dX10_isWay_0 : decode cX10_isWay 0 = .ok (.aload_n 0, 1) := by decide +kernel
theorem dX10_isWay_1 : decode cX10_isWay 1 = .ok (.iload_n 1, 1) := by decide +kernel
theorem dX10_isWay_2 : decode cX10_isWay 2 = .ok (.invokevirtual 106, 3) := by decide +kernel
theorem dX10_isWay_5 : decode cX10_isWay 5 = .ok (.ifCond .eq 19, 3) := by decide +kernel
theorem dX10_isWay_8 : decode cX10_isWay 8 = .ok (.iload_n 2, 1) := by decide +kernel
theorem dX10_isWay_9 : decode cX10_isWay 9 = .ok (.i2l, 1) := by decide +kernel
theorem dX10_isWay_10 : decode cX10_isWay 10 = .ok (.lconst 0, 1) := by decide +kernel
theorem dX10_isWay_11 : decode cX10_isWay 11 = .ok (.ldc2_w 445, 3) := by decide +kernel
theorem dX10_isWay_14 : decode cX10_isWay 14 = .ok (.invokestatic 98, 3) := by decide +kernel
theorem dX10_isWay_17 : decode cX10_isWay 17 = .ok (.ifCond .eq 7, 3) := by decide +kernel
theorem dX10_isWay_20 : decode cX10_isWay 20 = .ok (.iconst 1, 1) := by decide +kernel
theorem dX10_isWay_21 : decode cX10_isWay 21 = .ok (.goto 4, 3) := by decide +kernel
theorem dX10_isWay_24 : decode cX10_isWay 24 = .ok (.iconst 0, 1) := by decide +kernel
theorem dX10_isWay_25 : decode cX10_isWay 25 = .ok (.ireturn, 1) := by decide +kernel
theorem dX10_totalOf_0 : decode cX10_totalOf 0 = .ok (.aload_n 0, 1) := by decide +kernel
theorem dX10_totalOf_1 : decode cX10_totalOf 1 = .ok (.iload_n 1, 1) := by decide +kernel
theorem dX10_totalOf_2 : decode cX10_totalOf 2 = .ok (.iconst 4, 1) := by decide +kernel
theorem dX10_totalOf_3 : decode cX10_totalOf 3 = .ok (.invokevirtual 276, 3) := by decide +kernel
theorem dX10_totalOf_6 : decode cX10_totalOf 6 = .ok (.istore 4, 2) := by decide +kernel
theorem dX10_totalOf_8 : decode cX10_totalOf 8 = .ok (.aload_n 0, 1) := by decide +kernel
theorem dX10_totalOf_9 : decode cX10_totalOf 9 = .ok (.invokevirtual 360, 3) := by decide +kernel
theorem dX10_totalOf_12 : decode cX10_totalOf 12 = .ok (.aload_n 0, 1) := by decide +kernel
theorem dX10_totalOf_13 : decode cX10_totalOf 13 = .ok (.iload_n 1, 1) := by decide +kernel
theorem dX10_totalOf_14 : decode cX10_totalOf 14 = .ok (.iload_n 2, 1) := by decide +kernel
theorem dX10_totalOf_15 : decode cX10_totalOf 15 = .ok (.invokevirtual 447, 3) := by decide +kernel
theorem dX10_totalOf_18 : decode cX10_totalOf 18 = .ok (.aload_n 0, 1) := by decide +kernel
theorem dX10_totalOf_19 : decode cX10_totalOf 19 = .ok (.iload_n 3, 1) := by decide +kernel
theorem dX10_totalOf_20 : decode cX10_totalOf 20 = .ok (.invokevirtual 442, 3) := by decide +kernel
theorem dX10_totalOf_23 : decode cX10_totalOf 23 = .ok (.pop, 1) := by decide +kernel
theorem dX10_totalOf_24 : decode cX10_totalOf 24 = .ok (.aload_n 0, 1) := by decide +kernel
theorem dX10_totalOf_25 : decode cX10_totalOf 25 = .ok (.iload_n 1, 1) := by decide +kernel
theorem dX10_totalOf_26 : decode cX10_totalOf 26 = .ok (.iconst 4, 1) := by decide +kernel
theorem dX10_totalOf_27 : decode cX10_totalOf 27 = .ok (.invokevirtual 276, 3) := by decide +kernel
theorem dX10_totalOf_30 : decode cX10_totalOf 30 = .ok (.istore 5, 2) := by decide +kernel
theorem dX10_totalOf_32 : decode cX10_totalOf 32 = .ok (.aload_n 0, 1) := by decide +kernel
theorem dX10_totalOf_33 : decode cX10_totalOf 33 = .ok (.invokevirtual 367, 3) := by decide +kernel
theorem dX10_totalOf_36 : decode cX10_totalOf 36 = .ok (.iload 5, 2) := by decide +kernel
theorem dX10_totalOf_38 : decode cX10_totalOf 38 = .ok (.iload 4, 2) := by decide +kernel
theorem dX10_totalOf_40 : decode cX10_totalOf 40 = .ok (.isub, 1) := by decide +kernel
theorem dX10_totalOf_41 : decode cX10_totalOf 41 = .ok (.ireturn, 1) := by decide +kernel
theorem dX10_total_0 : decode cX10_total 0 = .ok (.aload_n 0, 1) := by decide +kernel
theorem dX10_total_1 : decode cX10_total 1 = .ok (.iload_n 1, 1) := by decide +kernel
theorem dX10_total_2 : decode cX10_total 2 = .ok (.iload_n 2, 1) := by decide +kernel
theorem dX10_total_3 : decode cX10_total 3 = .ok (.invokevirtual 450, 3) := by decide +kernel
theorem dX10_total_6 : decode cX10_total 6 = .ok (.ifCond .eq 25, 3) := by decide +kernel
theorem dX10_total_9 : decode cX10_total 9 = .ok (.iload_n 3, 1) := by decide +kernel
