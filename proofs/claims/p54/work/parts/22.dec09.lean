theorem dX10_follows_45 : decode cX10_follows 45 = .ok (.ireturn, 1) := by decide +kernel
theorem dX10_follows_46 : decode cX10_follows 46 = .ok (.iconst 0, 1) := by decide +kernel
theorem dX10_follows_47 : decode cX10_follows 47 = .ok (.istore_n 3, 1) := by decide +kernel
theorem dX10_follows_48 : decode cX10_follows 48 = .ok (.iload_n 3, 1) := by decide +kernel
theorem dX10_follows_49 : decode cX10_follows 49 = .ok (.aload_n 0, 1) := by decide +kernel
theorem dX10_follows_50 : decode cX10_follows 50 = .ok (.getfield 80, 3) := by decide +kernel
theorem dX10_follows_53 : decode cX10_follows 53 = .ok (.iload_n 2, 1) := by decide +kernel
theorem dX10_follows_54 : decode cX10_follows 54 = .ok (.iaload, 1) := by decide +kernel
theorem dX10_follows_55 : decode cX10_follows 55 = .ok (.if_icmp .ge 52, 3) := by decide +kernel
theorem dX10_follows_58 : decode cX10_follows 58 = .ok (.aload_n 0, 1) := by decide +kernel
theorem dX10_follows_59 : decode cX10_follows 59 = .ok (.getfield 86, 3) := by decide +kernel
theorem dX10_follows_62 : decode cX10_follows 62 = .ok (.bipush 60, 2) := by decide +kernel
theorem dX10_follows_64 : decode cX10_follows 64 = .ok (.iload_n 2, 1) := by decide +kernel
theorem dX10_follows_65 : decode cX10_follows 65 = .ok (.imul, 1) := by decide +kernel
theorem dX10_follows_66 : decode cX10_follows 66 = .ok (.iload_n 3, 1) := by decide +kernel
theorem dX10_follows_67 : decode cX10_follows 67 = .ok (.iadd, 1) := by decide +kernel
theorem dX10_follows_68 : decode cX10_follows 68 = .ok (.laload, 1) := by decide +kernel
theorem dX10_follows_69 : decode cX10_follows 69 = .ok (.lconst 0, 1) := by decide +kernel
theorem dX10_follows_70 : decode cX10_follows 70 = .ok (.ldc2_w 445, 3) := by decide +kernel
theorem dX10_follows_73 : decode cX10_follows 73 = .ok (.invokestatic 98, 3) := by decide +kernel
theorem dX10_follows_76 : decode cX10_follows 76 = .ok (.ifCond .ne 7, 3) := by decide +kernel
theorem dX10_follows_79 : decode cX10_follows 79 = .ok (.ldc_w 388, 3) := by decide +kernel
theorem dX10_follows_82 : decode cX10_follows 82 = .ok (.ireturn, 1) := by decide +kernel
theorem dX10_follows_83 : decode cX10_follows 83 = .ok (.aload_n 0, 1) := by decide +kernel
theorem dX10_follows_84 : decode cX10_follows 84 = .ok (.getfield 71, 3) := by decide +kernel
theorem dX10_follows_87 : decode cX10_follows 87 = .ok (.iload_n 3, 1) := by decide +kernel
theorem dX10_follows_88 : decode cX10_follows 88 = .ok (.aload_n 0, 1) := by decide +kernel
theorem dX10_follows_89 : decode cX10_follows 89 = .ok (.getfield 86, 3) := by decide +kernel
theorem dX10_follows_92 : decode cX10_follows 92 = .ok (.bipush 60, 2) := by decide +kernel
theorem dX10_follows_94 : decode cX10_follows 94 = .ok (.iload_n 2, 1) := by decide +kernel
theorem dX10_follows_95 : decode cX10_follows 95 = .ok (.imul, 1) := by decide +kernel
theorem dX10_follows_96 : decode cX10_follows 96 = .ok (.iload_n 3, 1) := by decide +kernel
theorem dX10_follows_97 : decode cX10_follows 97 = .ok (.iadd, 1) := by decide +kernel
theorem dX10_follows_98 : decode cX10_follows 98 = .ok (.laload, 1) := by decide +kernel
theorem dX10_follows_99 : decode cX10_follows 99 = .ok (.l2i, 1) := by decide +kernel
theorem dX10_follows_100 : decode cX10_follows 100 = .ok (.iastore, 1) := by decide +kernel
theorem dX10_follows_101 : decode cX10_follows 101 = .ok (.iinc 3 1, 3) := by decide +kernel
theorem dX10_follows_104 : decode cX10_follows 104 = .ok (.goto (-56), 3) := by decide +kernel
theorem dX10_follows_107 : decode cX10_follows 107 = .ok (.aload_n 0, 1) := by decide +kernel
theorem dX10_follows_108 : decode cX10_follows 108 = .ok (.iload_n 1, 1) := by decide +kernel
theorem dX10_follows_109 : decode cX10_follows 109 = .ok (.aload_n 0, 1) := by decide +kernel
theorem dX10_follows_110 : decode cX10_follows 110 = .ok (.getfield 80, 3) := by decide +kernel
theorem dX10_follows_113 : decode cX10_follows 113 = .ok (.iload_n 2, 1) := by decide +kernel
theorem dX10_follows_114 : decode cX10_follows 114 = .ok (.iaload, 1) := by decide +kernel
theorem dX10_follows_115 : decode cX10_follows 115 = .ok (.invokevirtual 494, 3) := by decide +kernel
theorem dX10_follows_118 : decode cX10_follows 118 = .ok (.ireturn, 1) := by decide +kernel
theorem dX10_plan_0 : decode cX10_plan 0 = .ok (.aload_n 0, 1) := by decide +kernel
theorem dX10_plan_1 : decode cX10_plan 1 = .ok (.iload_n 1, 1) := by decide +kernel
theorem dX10_plan_2 : decode cX10_plan 2 = .ok (.invokevirtual 106, 3) := by decide +kernel
theorem dX10_plan_5 : decode cX10_plan 5 = .ok (.ifCond .eq 26, 3) := by decide +kernel
theorem dX10_plan_8 : decode cX10_plan 8 = .ok (.iload_n 2, 1) := by decide +kernel
theorem dX10_plan_9 : decode cX10_plan 9 = .ok (.i2l, 1) := by decide +kernel
theorem dX10_plan_10 : decode cX10_plan 10 = .ok (.lconst 1, 1) := by decide +kernel
theorem dX10_plan_11 : decode cX10_plan 11 = .ok (.ldc2_w 282, 3) := by decide +kernel
theorem dX10_plan_14 : decode cX10_plan 14 = .ok (.invokestatic 98, 3) := by decide +kernel
theorem dX10_plan_17 : decode cX10_plan 17 = .ok (.ifCond .eq 14, 3) := by decide +kernel
theorem dX10_plan_20 : decode cX10_plan 20 = .ok (.iload_n 3, 1) := by decide +kernel
theorem dX10_plan_21 : decode cX10_plan 21 = .ok (.i2l, 1) := by decide +kernel
theorem dX10_plan_22 : decode cX10_plan 22 = .ok (.lconst 0, 1) := by decide +kernel
theorem dX10_plan_23 : decode cX10_plan 23 = .ok (.iload_n 2, 1) := by decide +kernel
theorem dX10_plan_24 : decode cX10_plan 24 = .ok (.i2l, 1) := by decide +kernel
theorem dX10_plan_25 : decode cX10_plan 25 = .ok (.invokestatic 98, 3) := by decide +kernel
theorem dX10_plan_28 : decode cX10_plan 28 = .ok (.ifCond .ne 7, 3) := by decide +kernel
theorem dX10_plan_31 : decode cX10_plan 31 = .ok (.ldc_w 388, 3) := by decide +kernel
theorem dX10_plan_34 : decode cX10_plan 34 = .ok (.ireturn, 1) := by decide +kernel
theorem dX10_plan_35 : decode cX10_plan 35 = .ok (.iconst 1, 1) := by decide +kernel
theorem dX10_plan_36 : decode cX10_plan 36 = .ok (.istore 4, 2) := by decide +kernel
theorem dX10_plan_38 : decode cX10_plan 38 = .ok (.iconst 0, 1) := by decide +kernel
theorem dX10_plan_39 : decode cX10_plan 39 = .ok (.istore 5, 2) := by decide +kernel
theorem dX10_plan_41 : decode cX10_plan 41 = .ok (.iload 5, 2) := by decide +kernel
theorem dX10_plan_43 : decode cX10_plan 43 = .ok (.iload_n 2, 1) := by decide +kernel
theorem dX10_plan_44 : decode cX10_plan 44 = .ok (.if_icmp .ge 16, 3) := by decide +kernel
theorem dX10_plan_47 : decode cX10_plan 47 = .ok (.iload 4, 2) := by decide +kernel
theorem dX10_plan_49 : decode cX10_plan 49 = .ok (.bipush 6, 2) := by decide +kernel
theorem dX10_plan_51 : decode cX10_plan 51 = .ok (.imul, 1) := by decide +kernel
theorem dX10_plan_52 : decode cX10_plan 52 = .ok (.istore 4, 2) := by decide +kernel
theorem dX10_plan_54 : decode cX10_plan 54 = .ok (.iinc 5 1, 3) := by decide +kernel
theorem dX10_plan_57 : decode cX10_plan 57 = .ok (.goto (-16), 3) := by decide +kernel
theorem dX10_plan_60 : decode cX10_plan 60 = .ok (.iconst (-1), 1) := by decide +kernel
theorem dX10_plan_61 : decode cX10_plan 61 = .ok (.istore 5, 2) := by decide +kernel
theorem dX10_plan_63 : decode cX10_plan 63 = .ok (.iconst 0, 1) := by decide +kernel
theorem dX10_plan_64 : decode cX10_plan 64 = .ok (.istore 6, 2) := by decide +kernel
theorem dX10_plan_66 : decode cX10_plan 66 = .ok (.iconst 0, 1) := by decide +kernel
theorem dX10_plan_67 : decode cX10_plan 67 = .ok (.istore 7, 2) := by decide +kernel
theorem dX10_plan_69 : decode cX10_plan 69 = .ok (.iload 7, 2) := by decide +kernel
theorem dX10_plan_71 : decode cX10_plan 71 = .ok (.iload 4, 2) := by decide +kernel
theorem dX10_plan_73 : decode cX10_plan 73 = .ok (.if_icmp .ge 80, 3) := by decide +kernel
theorem dX10_plan_76 : decode cX10_plan 76 = .ok (.iload 7, 2) := by decide +kernel
theorem dX10_plan_78 : decode cX10_plan 78 = .ok (.istore 8, 2) := by decide +kernel
theorem dX10_plan_80 : decode cX10_plan 80 = .ok (.iload_n 2, 1) := by decide +kernel
theorem dX10_plan_81 : decode cX10_plan 81 = .ok (.iconst 1, 1) := by decide +kernel
theorem dX10_plan_82 : decode cX10_plan 82 = .ok (.isub, 1) := by decide +kernel
theorem dX10_plan_83 : decode cX10_plan 83 = .ok (.istore 9, 2) := by decide +kernel
theorem dX10_plan_85 : decode cX10_plan 85 = .ok (.iload 9, 2) := by decide +kernel
theorem dX10_plan_87 : decode cX10_plan 87 = .ok (.ifCond .lt 28, 3) := by decide +kernel
theorem dX10_plan_90 : decode cX10_plan 90 = .ok (.aload_n 0, 1) := by decide +kernel
theorem dX10_plan_91 : decode cX10_plan 91 = .ok (.getfield 71, 3) := by decide +kernel
theorem dX10_plan_94 : decode cX10_plan 94 = .ok (.iload 9, 2) := by decide +kernel
theorem dX10_plan_96 : decode cX10_plan 96 = .ok (.iload 8, 2) := by decide +kernel
theorem dX10_plan_98 : decode cX10_plan 98 = .ok (.bipush 6, 2) := by decide +kernel
theorem dX10_plan_100 : decode cX10_plan 100 = .ok (.irem, 1) := by decide +kernel
theorem dX10_plan_101 : decode cX10_plan 101 = .ok (.iastore, 1) := by decide +kernel
theorem dX10_plan_102 : decode cX10_plan 102 = .ok (.iload 8, 2) := by decide +kernel
theorem dX10_plan_104 : decode cX10_plan 104 = .ok (.bipush 6, 2) := by decide +kernel
theorem dX10_plan_106 : decode cX10_plan 106 = .ok (.idiv, 1) := by decide +kernel
theorem dX10_plan_107 : decode cX10_plan 107 = .ok (.istore 8, 2) := by decide +kernel
theorem dX10_plan_109 : decode cX10_plan 109 = .ok (.iinc 9 (-1), 3) := by decide +kernel
theorem dX10_plan_112 : decode cX10_plan 112 = .ok (.goto (-27), 3) := by decide +kernel
theorem dX10_plan_115 : decode cX10_plan 115 = .ok (.aload_n 0, 1) := by decide +kernel
theorem dX10_plan_116 : decode cX10_plan 116 = .ok (.iload_n 1, 1) := by decide +kernel
theorem dX10_plan_117 : decode cX10_plan 117 = .ok (.iload_n 2, 1) := by decide +kernel
theorem dX10_plan_118 : decode cX10_plan 118 = .ok (.invokevirtual 494, 3) := by decide +kernel
theorem dX10_plan_121 : decode cX10_plan 121 = .ok (.istore 9, 2) := by decide +kernel
theorem dX10_plan_123 : decode cX10_plan 123 = .ok (.iload 5, 2) := by decide +kernel
theorem dX10_plan_125 : decode cX10_plan 125 = .ok (.iconst (-1), 1) := by decide +kernel
theorem dX10_plan_126 : decode cX10_plan 126 = .ok (.if_icmp .eq 13, 3) := by decide +kernel
theorem dX10_plan_129 : decode cX10_plan 129 = .ok (.iload 9, 2) := by decide +kernel
theorem dX10_plan_131 : decode cX10_plan 131 = .ok (.iload 6, 2) := by decide +kernel
theorem dX10_plan_133 : decode cX10_plan 133 = .ok (.if_icmp .gt 6, 3) := by decide +kernel
theorem dX10_plan_136 : decode cX10_plan 136 = .ok (.goto 11, 3) := by decide +kernel
theorem dX10_plan_139 : decode cX10_plan 139 = .ok (.iload 7, 2) := by decide +kernel
theorem dX10_plan_141 : decode cX10_plan 141 = .ok (.istore 5, 2) := by decide +kernel
theorem dX10_plan_143 : decode cX10_plan 143 = .ok (.iload 9, 2) := by decide +kernel
theorem dX10_plan_145 : decode cX10_plan 145 = .ok (.istore 6, 2) := by decide +kernel
theorem dX10_plan_147 : decode cX10_plan 147 = .ok (.iinc 7 1, 3) := by decide +kernel
theorem dX10_plan_150 : decode cX10_plan 150 = .ok (.goto (-81), 3) := by decide +kernel
theorem dX10_plan_153 : decode cX10_plan 153 = .ok (.iload_n 3, 1) := by decide +kernel
theorem dX10_plan_154 : decode cX10_plan 154 = .ok (.ifCond .ne 6, 3) := by decide +kernel
theorem dX10_plan_157 : decode cX10_plan 157 = .ok (.iload 6, 2) := by decide +kernel
theorem dX10_plan_159 : decode cX10_plan 159 = .ok (.ireturn, 1) := by decide +kernel
theorem dX10_plan_160 : decode cX10_plan 160 = .ok (.iload_n 2, 1) := by decide +kernel
theorem dX10_plan_161 : decode cX10_plan 161 = .ok (.istore 7, 2) := by decide +kernel
theorem dX10_plan_163 : decode cX10_plan 163 = .ok (.iload 7, 2) := by decide +kernel
theorem dX10_plan_165 : decode cX10_plan 165 = .ok (.iload_n 3, 1) := by decide +kernel
theorem dX10_plan_166 : decode cX10_plan 166 = .ok (.if_icmp .le 16, 3) := by decide +kernel
theorem dX10_plan_169 : decode cX10_plan 169 = .ok (.iload 5, 2) := by decide +kernel
theorem dX10_plan_171 : decode cX10_plan 171 = .ok (.bipush 6, 2) := by decide +kernel
theorem dX10_plan_173 : decode cX10_plan 173 = .ok (.idiv, 1) := by decide +kernel
theorem dX10_plan_174 : decode cX10_plan 174 = .ok (.istore 5, 2) := by decide +kernel
theorem dX10_plan_176 : decode cX10_plan 176 = .ok (.iinc 7 (-1), 3) := by decide +kernel
theorem dX10_plan_179 : decode cX10_plan 179 = .ok (.goto (-16), 3) := by decide +kernel
theorem dX10_plan_182 : decode cX10_plan 182 = .ok (.iload 5, 2) := by decide +kernel
theorem dX10_plan_184 : decode cX10_plan 184 = .ok (.bipush 6, 2) := by decide +kernel
theorem dX10_plan_186 : decode cX10_plan 186 = .ok (.irem, 1) := by decide +kernel
theorem dX10_plan_187 : decode cX10_plan 187 = .ok (.ireturn, 1) := by decide +kernel
theorem dX10_open_0 : decode cX10_open 0 = .ok (.aload_n 0, 1) := by decide +kernel
theorem dX10_open_1 : decode cX10_open 1 = .ok (.invokevirtual 295, 3) := by decide +kernel
theorem dX10_open_4 : decode cX10_open 4 = .ok (.ifCond .ne 6, 3) := by decide +kernel
theorem dX10_open_7 : decode cX10_open 7 = .ok (.bipush (-2), 2) := by decide +kernel
theorem dX10_open_9 : decode cX10_open 9 = .ok (.ireturn, 1) := by decide +kernel
theorem dX10_open_10 : decode cX10_open 10 = .ok (.aload_n 0, 1) := by decide +kernel
theorem dX10_open_11 : decode cX10_open 11 = .ok (.getfield 13, 3) := by decide +kernel
theorem dX10_open_14 : decode cX10_open 14 = .ok (.bipush 10, 2) := by decide +kernel
theorem dX10_open_16 : decode cX10_open 16 = .ok (.iaload, 1) := by decide +kernel
theorem dX10_open_17 : decode cX10_open 17 = .ok (.aload_n 0, 1) := by decide +kernel
theorem dX10_open_18 : decode cX10_open 18 = .ok (.invokevirtual 295, 3) := by decide +kernel
theorem dX10_open_21 : decode cX10_open 21 = .ok (.idiv, 1) := by decide +kernel
theorem dX10_open_22 : decode cX10_open 22 = .ok (.istore_n 1, 1) := by decide +kernel
theorem dX10_open_23 : decode cX10_open 23 = .ok (.aload_n 0, 1) := by decide +kernel
theorem dX10_open_24 : decode cX10_open 24 = .ok (.getfield 13, 3) := by decide +kernel
theorem dX10_open_27 : decode cX10_open 27 = .ok (.bipush 10, 2) := by decide +kernel
theorem dX10_open_29 : decode cX10_open 29 = .ok (.dup2, 1) := by decide +kernel
theorem dX10_open_30 : decode cX10_open 30 = .ok (.iaload, 1) := by decide +kernel
theorem dX10_open_31 : decode cX10_open 31 = .ok (.iload_n 1, 1) := by decide +kernel
theorem dX10_open_32 : decode cX10_open 32 = .ok (.aload_n 0, 1) := by decide +kernel
theorem dX10_open_33 : decode cX10_open 33 = .ok (.invokevirtual 295, 3) := by decide +kernel
theorem dX10_open_36 : decode cX10_open 36 = .ok (.imul, 1) := by decide +kernel
theorem dX10_open_37 : decode cX10_open 37 = .ok (.isub, 1) := by decide +kernel
theorem dX10_open_38 : decode cX10_open 38 = .ok (.iastore, 1) := by decide +kernel
theorem dX10_open_39 : decode cX10_open 39 = .ok (.iconst 0, 1) := by decide +kernel
theorem dX10_open_40 : decode cX10_open 40 = .ok (.istore_n 2, 1) := by decide +kernel
theorem dX10_open_41 : decode cX10_open 41 = .ok (.iload_n 2, 1) := by decide +kernel
theorem dX10_open_42 : decode cX10_open 42 = .ok (.aload_n 0, 1) := by decide +kernel
theorem dX10_open_43 : decode cX10_open 43 = .ok (.invokevirtual 295, 3) := by decide +kernel
theorem dX10_open_46 : decode cX10_open 46 = .ok (.if_icmp .ge 22, 3) := by decide +kernel
theorem dX10_open_49 : decode cX10_open 49 = .ok (.aload_n 0, 1) := by decide +kernel
theorem dX10_open_50 : decode cX10_open 50 = .ok (.iload_n 2, 1) := by decide +kernel
theorem dX10_open_51 : decode cX10_open 51 = .ok (.aload_n 0, 1) := by decide +kernel
theorem dX10_open_52 : decode cX10_open 52 = .ok (.iload_n 2, 1) := by decide +kernel
theorem dX10_open_53 : decode cX10_open 53 = .ok (.iconst 0, 1) := by decide +kernel
theorem dX10_open_54 : decode cX10_open 54 = .ok (.invokevirtual 276, 3) := by decide +kernel
theorem dX10_open_57 : decode cX10_open 57 = .ok (.iload_n 1, 1) := by decide +kernel
theorem dX10_open_58 : decode cX10_open 58 = .ok (.iadd, 1) := by decide +kernel
theorem dX10_open_59 : decode cX10_open 59 = .ok (.invokevirtual 284, 3) := by decide +kernel
theorem dX10_open_62 : decode cX10_open 62 = .ok (.iinc 2 1, 3) := by decide +kernel
theorem dX10_open_65 : decode cX10_open 65 = .ok (.goto (-24), 3) := by decide +kernel
theorem dX10_open_68 : decode cX10_open 68 = .ok (.iload_n 1, 1) := by decide +kernel
theorem dX10_open_69 : decode cX10_open 69 = .ok (.ireturn, 1) := by decide +kernel
theorem dX10_duels_0 : decode cX10_duels 0 = .ok (.iconst 0, 1) := by decide +kernel
theorem dX10_duels_1 : decode cX10_duels 1 = .ok (.istore_n 3, 1) := by decide +kernel
theorem dX10_duels_2 : decode cX10_duels 2 = .ok (.iload_n 3, 1) := by decide +kernel
theorem dX10_duels_3 : decode cX10_duels 3 = .ok (.iconst 4, 1) := by decide +kernel
theorem dX10_duels_4 : decode cX10_duels 4 = .ok (.if_icmp .ge 134, 3) := by decide +kernel
theorem dX10_duels_7 : decode cX10_duels 7 = .ok (.iload_n 3, 1) := by decide +kernel
theorem dX10_duels_8 : decode cX10_duels 8 = .ok (.iconst 1, 1) := by decide +kernel
theorem dX10_duels_9 : decode cX10_duels 9 = .ok (.iand, 1) := by decide +kernel
theorem dX10_duels_10 : decode cX10_duels 10 = .ok (.aload_n 0, 1) := by decide +kernel
theorem dX10_duels_11 : decode cX10_duels 11 = .ok (.iload_n 1, 1) := by decide +kernel
theorem dX10_duels_12 : decode cX10_duels 12 = .ok (.iconst 0, 1) := by decide +kernel
theorem dX10_duels_13 : decode cX10_duels 13 = .ok (.invokevirtual 276, 3) := by decide +kernel
theorem dX10_duels_16 : decode cX10_duels 16 = .ok (.invokestatic 141, 3) := by decide +kernel
theorem dX10_duels_19 : decode cX10_duels 19 = .ok (.istore 4, 2) := by decide +kernel
theorem dX10_duels_21 : decode cX10_duels 21 = .ok (.iload_n 3, 1) := by decide +kernel
theorem dX10_duels_22 : decode cX10_duels 22 = .ok (.iconst 1, 1) := by decide +kernel
theorem dX10_duels_23 : decode cX10_duels 23 = .ok (.ishr, 1) := by decide +kernel
theorem dX10_duels_24 : decode cX10_duels 24 = .ok (.aload_n 0, 1) := by decide +kernel
theorem dX10_duels_25 : decode cX10_duels 25 = .ok (.iload_n 2, 1) := by decide +kernel
theorem dX10_duels_26 : decode cX10_duels 26 = .ok (.iconst 0, 1) := by decide +kernel
theorem dX10_duels_27 : decode cX10_duels 27 = .ok (.invokevirtual 276, 3) := by decide +kernel
theorem dX10_duels_30 : decode cX10_duels 30 = .ok (.invokestatic 141, 3) := by decide +kernel
theorem dX10_duels_33 : decode cX10_duels 33 = .ok (.istore 5, 2) := by decide +kernel
theorem dX10_duels_35 : decode cX10_duels 35 = .ok (.aload_n 0, 1) := by decide +kernel
theorem dX10_duels_36 : decode cX10_duels 36 = .ok (.invokevirtual 360, 3) := by decide +kernel
theorem dX10_duels_39 : decode cX10_duels 39 = .ok (.aload_n 0, 1) := by decide +kernel
theorem dX10_duels_40 : decode cX10_duels 40 = .ok (.iload_n 1, 1) := by decide +kernel
theorem dX10_duels_41 : decode cX10_duels 41 = .ok (.aload_n 0, 1) := by decide +kernel
theorem dX10_duels_42 : decode cX10_duels 42 = .ok (.iload_n 1, 1) := by decide +kernel
theorem dX10_duels_43 : decode cX10_duels 43 = .ok (.iconst 0, 1) := by decide +kernel
theorem dX10_duels_44 : decode cX10_duels 44 = .ok (.invokevirtual 276, 3) := by decide +kernel
theorem dX10_duels_47 : decode cX10_duels 47 = .ok (.iload 4, 2) := by decide +kernel
theorem dX10_duels_49 : decode cX10_duels 49 = .ok (.isub, 1) := by decide +kernel
theorem dX10_duels_50 : decode cX10_duels 50 = .ok (.invokevirtual 284, 3) := by decide +kernel
theorem dX10_duels_53 : decode cX10_duels 53 = .ok (.aload_n 0, 1) := by decide +kernel
theorem dX10_duels_54 : decode cX10_duels 54 = .ok (.iload_n 2, 1) := by decide +kernel
theorem dX10_duels_55 : decode cX10_duels 55 = .ok (.aload_n 0, 1) := by decide +kernel
theorem dX10_duels_56 : decode cX10_duels 56 = .ok (.iload_n 2, 1) := by decide +kernel
theorem dX10_duels_57 : decode cX10_duels 57 = .ok (.iconst 0, 1) := by decide +kernel
theorem dX10_duels_58 : decode cX10_duels 58 = .ok (.invokevirtual 276, 3) := by decide +kernel
theorem dX10_duels_61 : decode cX10_duels 61 = .ok (.iload 5, 2) := by decide +kernel
theorem dX10_duels_63 : decode cX10_duels 63 = .ok (.isub, 1) := by decide +kernel
theorem dX10_duels_64 : decode cX10_duels 64 = .ok (.invokevirtual 284, 3) := by decide +kernel
theorem dX10_duels_67 : decode cX10_duels 67 = .ok (.aload_n 0, 1) := by decide +kernel
theorem dX10_duels_68 : decode cX10_duels 68 = .ok (.invokevirtual 328, 3) := by decide +kernel
theorem dX10_duels_71 : decode cX10_duels 71 = .ok (.pop, 1) := by decide +kernel
theorem dX10_duels_72 : decode cX10_duels 72 = .ok (.aload_n 0, 1) := by decide +kernel
theorem dX10_duels_73 : decode cX10_duels 73 = .ok (.getfield 74, 3) := by decide +kernel
theorem dX10_duels_76 : decode cX10_duels 76 = .ok (.iload_n 3, 1) := by decide +kernel
theorem dX10_duels_77 : decode cX10_duels 77 = .ok (.aload_n 0, 1) := by decide +kernel
theorem dX10_duels_78 : decode cX10_duels 78 = .ok (.iload_n 1, 1) := by decide +kernel
theorem dX10_duels_79 : decode cX10_duels 79 = .ok (.bipush 7, 2) := by decide +kernel
theorem dX10_duels_81 : decode cX10_duels 81 = .ok (.invokevirtual 276, 3) := by decide +kernel
theorem dX10_duels_84 : decode cX10_duels 84 = .ok (.aload_n 0, 1) := by decide +kernel
theorem dX10_duels_85 : decode cX10_duels 85 = .ok (.iload_n 1, 1) := by decide +kernel
theorem dX10_duels_86 : decode cX10_duels 86 = .ok (.iconst 0, 1) := by decide +kernel
theorem dX10_duels_87 : decode cX10_duels 87 = .ok (.invokevirtual 276, 3) := by decide +kernel
theorem dX10_duels_90 : decode cX10_duels 90 = .ok (.imul, 1) := by decide +kernel
theorem dX10_duels_91 : decode cX10_duels 91 = .ok (.aload_n 0, 1) := by decide +kernel
theorem dX10_duels_92 : decode cX10_duels 92 = .ok (.iload_n 1, 1) := by decide +kernel
theorem dX10_duels_93 : decode cX10_duels 93 = .ok (.iload 4, 2) := by decide +kernel
theorem dX10_duels_95 : decode cX10_duels 95 = .ok (.invokevirtual 351, 3) := by decide +kernel
theorem dX10_duels_98 : decode cX10_duels 98 = .ok (.iadd, 1) := by decide +kernel
theorem dX10_duels_99 : decode cX10_duels 99 = .ok (.iastore, 1) := by decide +kernel
theorem dX10_duels_100 : decode cX10_duels 100 = .ok (.aload_n 0, 1) := by decide +kernel
theorem dX10_duels_101 : decode cX10_duels 101 = .ok (.getfield 77, 3) := by decide +kernel
theorem dX10_duels_104 : decode cX10_duels 104 = .ok (.iload_n 3, 1) := by decide +kernel
theorem dX10_duels_105 : decode cX10_duels 105 = .ok (.aload_n 0, 1) := by decide +kernel
theorem dX10_duels_106 : decode cX10_duels 106 = .ok (.iload_n 2, 1) := by decide +kernel
theorem dX10_duels_107 : decode cX10_duels 107 = .ok (.bipush 7, 2) := by decide +kernel
theorem dX10_duels_109 : decode cX10_duels 109 = .ok (.invokevirtual 276, 3) := by decide +kernel
theorem dX10_duels_112 : decode cX10_duels 112 = .ok (.aload_n 0, 1) := by decide +kernel
theorem dX10_duels_113 : decode cX10_duels 113 = .ok (.iload_n 2, 1) := by decide +kernel
theorem dX10_duels_114 : decode cX10_duels 114 = .ok (.iconst 0, 1) := by decide +kernel
theorem dX10_duels_115 : decode cX10_duels 115 = .ok (.invokevirtual 276, 3) := by decide +kernel
theorem dX10_duels_118 : decode cX10_duels 118 = .ok (.imul, 1) := by decide +kernel
theorem dX10_duels_119 : decode cX10_duels 119 = .ok (.aload_n 0, 1) := by decide +kernel
theorem dX10_duels_120 : decode cX10_duels 120 = .ok (.iload_n 2, 1) := by decide +kernel
theorem dX10_duels_121 : decode cX10_duels 121 = .ok (.iload 5, 2) := by decide +kernel
theorem dX10_duels_123 : decode cX10_duels 123 = .ok (.invokevirtual 351, 3) := by decide +kernel
theorem dX10_duels_126 : decode cX10_duels 126 = .ok (.iadd, 1) := by decide +kernel
theorem dX10_duels_127 : decode cX10_duels 127 = .ok (.iastore, 1) := by decide +kernel
theorem dX10_duels_128 : decode cX10_duels 128 = .ok (.aload_n 0, 1) := by decide +kernel
theorem dX10_duels_129 : decode cX10_duels 129 = .ok (.invokevirtual 367, 3) := by decide +kernel
theorem dX10_duels_132 : decode cX10_duels 132 = .ok (.iinc 3 1, 3) := by decide +kernel
theorem dX10_duels_135 : decode cX10_duels 135 = .ok (.goto (-133), 3) := by decide +kernel
theorem dX10_duels_138 : decode cX10_duels 138 = .ok (.return_, 1) := by decide +kernel
theorem dX10_duel_0 : decode cX10_duel 0 = .ok (.aload_n 0, 1) := by decide +kernel
theorem dX10_duel_1 : decode cX10_duel 1 = .ok (.iload_n 1, 1) := by decide +kernel
theorem dX10_duel_2 : decode cX10_duel 2 = .ok (.iload_n 2, 1) := by decide +kernel
theorem dX10_duel_3 : decode cX10_duel 3 = .ok (.invokevirtual 289, 3) := by decide +kernel
theorem dX10_duel_6 : decode cX10_duel 6 = .ok (.ifCond .ne 6, 3) := by decide +kernel
theorem dX10_duel_9 : decode cX10_duel 9 = .ok (.bipush (-2), 2) := by decide +kernel
theorem dX10_duel_11 : decode cX10_duel 11 = .ok (.ireturn, 1) := by decide +kernel
theorem dX10_duel_12 : decode cX10_duel 12 = .ok (.aload_n 0, 1) := by decide +kernel
theorem dX10_duel_13 : decode cX10_duel 13 = .ok (.iload_n 1, 1) := by decide +kernel
theorem dX10_duel_14 : decode cX10_duel 14 = .ok (.iload_n 2, 1) := by decide +kernel
theorem dX10_duel_15 : decode cX10_duel 15 = .ok (.invokevirtual 497, 3) := by decide +kernel
theorem dX10_duel_18 : decode cX10_duel 18 = .ok (.iconst 0, 1) := by decide +kernel
theorem dX10_duel_19 : decode cX10_duel 19 = .ok (.istore_n 3, 1) := by decide +kernel
theorem dX10_duel_20 : decode cX10_duel 20 = .ok (.iconst 0, 1) := by decide +kernel
theorem dX10_duel_21 : decode cX10_duel 21 = .ok (.istore 4, 2) := by decide +kernel
theorem dX10_duel_23 : decode cX10_duel 23 = .ok (.iload 4, 2) := by decide +kernel
theorem dX10_duel_25 : decode cX10_duel 25 = .ok (.iconst 4, 1) := by decide +kernel
theorem dX10_duel_26 : decode cX10_duel 26 = .ok (.if_icmp .ge 58, 3) := by decide +kernel
theorem dX10_duel_29 : decode cX10_duel 29 = .ok (.iload_n 3, 1) := by decide +kernel
theorem dX10_duel_30 : decode cX10_duel 30 = .ok (.aload_n 0, 1) := by decide +kernel
theorem dX10_duel_31 : decode cX10_duel 31 = .ok (.getfield 74, 3) := by decide +kernel
theorem dX10_duel_34 : decode cX10_duel 34 = .ok (.iload 4, 2) := by decide +kernel
theorem dX10_duel_36 : decode cX10_duel 36 = .ok (.iconst 1, 1) := by decide +kernel
theorem dX10_duel_37 : decode cX10_duel 37 = .ok (.ixor, 1) := by decide +kernel
theorem dX10_duel_38 : decode cX10_duel 38 = .ok (.iaload, 1) := by decide +kernel
theorem dX10_duel_39 : decode cX10_duel 39 = .ok (.aload_n 0, 1) := by decide +kernel
theorem dX10_duel_40 : decode cX10_duel 40 = .ok (.getfield 74, 3) := by decide +kernel
theorem dX10_duel_43 : decode cX10_duel 43 = .ok (.iload 4, 2) := by decide +kernel
theorem dX10_duel_45 : decode cX10_duel 45 = .ok (.iaload, 1) := by decide +kernel
theorem dX10_duel_46 : decode cX10_duel 46 = .ok (.if_icmp .gt 29, 3) := by decide +kernel
theorem dX10_duel_49 : decode cX10_duel 49 = .ok (.aload_n 0, 1) := by decide +kernel
theorem dX10_duel_50 : decode cX10_duel 50 = .ok (.getfield 77, 3) := by decide +kernel
theorem dX10_duel_53 : decode cX10_duel 53 = .ok (.iload 4, 2) := by decide +kernel
theorem dX10_duel_55 : decode cX10_duel 55 = .ok (.iconst 2, 1) := by decide +kernel
theorem dX10_duel_56 : decode cX10_duel 56 = .ok (.ixor, 1) := by decide +kernel
theorem dX10_duel_57 : decode cX10_duel 57 = .ok (.iaload, 1) := by decide +kernel
theorem dX10_duel_58 : decode cX10_duel 58 = .ok (.aload_n 0, 1) := by decide +kernel
theorem dX10_duel_59 : decode cX10_duel 59 = .ok (.getfield 77, 3) := by decide +kernel
theorem dX10_duel_62 : decode cX10_duel 62 = .ok (.iload 4, 2) := by decide +kernel
theorem dX10_duel_64 : decode cX10_duel 64 = .ok (.iaload, 1) := by decide +kernel
theorem dX10_duel_65 : decode cX10_duel 65 = .ok (.if_icmp .gt 10, 3) := by decide +kernel
theorem dX10_duel_68 : decode cX10_duel 68 = .ok (.iconst 1, 1) := by decide +kernel
theorem dX10_duel_69 : decode cX10_duel 69 = .ok (.iload 4, 2) := by decide +kernel
theorem dX10_duel_71 : decode cX10_duel 71 = .ok (.ishl, 1) := by decide +kernel
theorem dX10_duel_72 : decode cX10_duel 72 = .ok (.goto 4, 3) := by decide +kernel
theorem dX10_duel_75 : decode cX10_duel 75 = .ok (.iconst 0, 1) := by decide +kernel
theorem dX10_duel_76 : decode cX10_duel 76 = .ok (.ior, 1) := by decide +kernel
theorem dX10_duel_77 : decode cX10_duel 77 = .ok (.istore_n 3, 1) := by decide +kernel
theorem dX10_duel_78 : decode cX10_duel 78 = .ok (.iinc 4 1, 3) := by decide +kernel
theorem dX10_duel_81 : decode cX10_duel 81 = .ok (.goto (-58), 3) := by decide +kernel
theorem dX10_duel_84 : decode cX10_duel 84 = .ok (.iload_n 3, 1) := by decide +kernel
theorem dX10_duel_85 : decode cX10_duel 85 = .ok (.ireturn, 1) := by decide +kernel
theorem dX10_mixed_0 : decode cX10_mixed 0 = .ok (.aload_n 0, 1) := by decide +kernel
theorem dX10_mixed_1 : decode cX10_mixed 1 = .ok (.iload_n 1, 1) := by decide +kernel
theorem dX10_mixed_2 : decode cX10_mixed 2 = .ok (.iload_n 2, 1) := by decide +kernel
theorem dX10_mixed_3 : decode cX10_mixed 3 = .ok (.invokevirtual 289, 3) := by decide +kernel
theorem dX10_mixed_6 : decode cX10_mixed 6 = .ok (.ifCond .ne 6, 3) := by decide +kernel
theorem dX10_mixed_9 : decode cX10_mixed 9 = .ok (.bipush (-2), 2) := by decide +kernel
theorem dX10_mixed_11 : decode cX10_mixed 11 = .ok (.ireturn, 1) := by decide +kernel
theorem dX10_mixed_12 : decode cX10_mixed 12 = .ok (.aload_n 0, 1) := by decide +kernel
theorem dX10_mixed_13 : decode cX10_mixed 13 = .ok (.iload_n 1, 1) := by decide +kernel
theorem dX10_mixed_14 : decode cX10_mixed 14 = .ok (.iload_n 2, 1) := by decide +kernel
theorem dX10_mixed_15 : decode cX10_mixed 15 = .ok (.invokevirtual 497, 3) := by decide +kernel
theorem dX10_mixed_18 : decode cX10_mixed 18 = .ok (.aload_n 0, 1) := by decide +kernel
theorem dX10_mixed_19 : decode cX10_mixed 19 = .ok (.getfield 77, 3) := by decide +kernel
theorem dX10_mixed_22 : decode cX10_mixed 22 = .ok (.iconst 2, 1) := by decide +kernel
theorem dX10_mixed_23 : decode cX10_mixed 23 = .ok (.iaload, 1) := by decide +kernel
theorem dX10_mixed_24 : decode cX10_mixed 24 = .ok (.aload_n 0, 1) := by decide +kernel
theorem dX10_mixed_25 : decode cX10_mixed 25 = .ok (.getfield 77, 3) := by decide +kernel
theorem dX10_mixed_28 : decode cX10_mixed 28 = .ok (.iconst 0, 1) := by decide +kernel
theorem dX10_mixed_29 : decode cX10_mixed 29 = .ok (.iaload, 1) := by decide +kernel
theorem dX10_mixed_30 : decode cX10_mixed 30 = .ok (.isub, 1) := by decide +kernel
theorem dX10_mixed_31 : decode cX10_mixed 31 = .ok (.i2l, 1) := by decide +kernel
theorem dX10_mixed_32 : decode cX10_mixed 32 = .ok (.lstore_n 3, 1) := by decide +kernel
theorem dX10_mixed_33 : decode cX10_mixed 33 = .ok (.lload_n 3, 1) := by decide +kernel
theorem dX10_mixed_34 : decode cX10_mixed 34 = .ok (.aload_n 0, 1) := by decide +kernel
theorem dX10_mixed_35 : decode cX10_mixed 35 = .ok (.getfield 77, 3) := by decide +kernel
theorem dX10_mixed_38 : decode cX10_mixed 38 = .ok (.iconst 3, 1) := by decide +kernel
theorem dX10_mixed_39 : decode cX10_mixed 39 = .ok (.iaload, 1) := by decide +kernel
theorem dX10_mixed_40 : decode cX10_mixed 40 = .ok (.aload_n 0, 1) := by decide +kernel
theorem dX10_mixed_41 : decode cX10_mixed 41 = .ok (.getfield 77, 3) := by decide +kernel
theorem dX10_mixed_44 : decode cX10_mixed 44 = .ok (.iconst 1, 1) := by decide +kernel
theorem dX10_mixed_45 : decode cX10_mixed 45 = .ok (.iaload, 1) := by decide +kernel
theorem dX10_mixed_46 : decode cX10_mixed 46 = .ok (.isub, 1) := by decide +kernel
theorem dX10_mixed_47 : decode cX10_mixed 47 = .ok (.i2l, 1) := by decide +kernel
theorem dX10_mixed_48 : decode cX10_mixed 48 = .ok (.lsub, 1) := by decide +kernel
theorem dX10_mixed_49 : decode cX10_mixed 49 = .ok (.lstore 5, 2) := by decide +kernel
theorem dX10_mixed_51 : decode cX10_mixed 51 = .ok (.lload 5, 2) := by decide +kernel
theorem dX10_mixed_53 : decode cX10_mixed 53 = .ok (.lconst 0, 1) := by decide +kernel
theorem dX10_mixed_54 : decode cX10_mixed 54 = .ok (.lcmp, 1) := by decide +kernel
theorem dX10_mixed_55 : decode cX10_mixed 55 = .ok (.ifCond .ge 11, 3) := by decide +kernel
theorem dX10_mixed_58 : decode cX10_mixed 58 = .ok (.lload_n 3, 1) := by decide +kernel
theorem dX10_mixed_59 : decode cX10_mixed 59 = .ok (.lneg, 1) := by decide +kernel
theorem dX10_mixed_60 : decode cX10_mixed 60 = .ok (.lstore_n 3, 1) := by decide +kernel
theorem dX10_mixed_61 : decode cX10_mixed 61 = .ok (.lload 5, 2) := by decide +kernel
theorem dX10_mixed_63 : decode cX10_mixed 63 = .ok (.lneg, 1) := by decide +kernel
theorem dX10_mixed_64 : decode cX10_mixed 64 = .ok (.lstore 5, 2) := by decide +kernel
theorem dX10_mixed_66 : decode cX10_mixed 66 = .ok (.lload 5, 2) := by decide +kernel
theorem dX10_mixed_68 : decode cX10_mixed 68 = .ok (.lconst 0, 1) := by decide +kernel
theorem dX10_mixed_69 : decode cX10_mixed 69 = .ok (.lcmp, 1) := by decide +kernel
theorem dX10_mixed_70 : decode cX10_mixed 70 = .ok (.ifCond .eq 16, 3) := by decide +kernel
theorem dX10_mixed_73 : decode cX10_mixed 73 = .ok (.lload_n 3, 1) := by decide +kernel
theorem dX10_mixed_74 : decode cX10_mixed 74 = .ok (.lconst 0, 1) := by decide +kernel
theorem dX10_mixed_75 : decode cX10_mixed 75 = .ok (.lcmp, 1) := by decide +kernel
theorem dX10_mixed_76 : decode cX10_mixed 76 = .ok (.ifCond .lt 10, 3) := by decide +kernel
theorem dX10_mixed_79 : decode cX10_mixed 79 = .ok (.lload_n 3, 1) := by decide +kernel
theorem dX10_mixed_80 : decode cX10_mixed 80 = .ok (.lload 5, 2) := by decide +kernel
theorem dX10_mixed_82 : decode cX10_mixed 82 = .ok (.lcmp, 1) := by decide +kernel
theorem dX10_mixed_83 : decode cX10_mixed 83 = .ok (.ifCond .le 7, 3) := by decide +kernel
theorem dX10_mixed_86 : decode cX10_mixed 86 = .ok (.iconst (-1), 1) := by decide +kernel
theorem dX10_mixed_87 : decode cX10_mixed 87 = .ok (.goto 12, 3) := by decide +kernel
theorem dX10_mixed_90 : decode cX10_mixed 90 = .ok (.ldc2_w 500, 3) := by decide +kernel
theorem dX10_mixed_93 : decode cX10_mixed 93 = .ok (.lload_n 3, 1) := by decide +kernel
theorem dX10_mixed_94 : decode cX10_mixed 94 = .ok (.lmul, 1) := by decide +kernel
theorem dX10_mixed_95 : decode cX10_mixed 95 = .ok (.lload 5, 2) := by decide +kernel
theorem dX10_mixed_97 : decode cX10_mixed 97 = .ok (.ldiv, 1) := by decide +kernel
theorem dX10_mixed_98 : decode cX10_mixed 98 = .ok (.l2i, 1) := by decide +kernel
theorem dX10_mixed_99 : decode cX10_mixed 99 = .ok (.ireturn, 1) := by decide +kernel
theorem dX10_seed_0 : decode cX10_seed 0 = .ok (.iload_n 1, 1) := by decide +kernel
theorem dX10_seed_1 : decode cX10_seed 1 = .ok (.i2l, 1) := by decide +kernel
theorem dX10_seed_2 : decode cX10_seed 2 = .ok (.lconst 0, 1) := by decide +kernel
theorem dX10_seed_3 : decode cX10_seed 3 = .ok (.ldc2_w 502, 3) := by decide +kernel
theorem dX10_seed_6 : decode cX10_seed 6 = .ok (.invokestatic 98, 3) := by decide +kernel
theorem dX10_seed_9 : decode cX10_seed 9 = .ok (.ifCond .ne 6, 3) := by decide +kernel
theorem dX10_seed_12 : decode cX10_seed 12 = .ok (.bipush (-2), 2) := by decide +kernel
theorem dX10_seed_14 : decode cX10_seed 14 = .ok (.ireturn, 1) := by decide +kernel
theorem dX10_seed_15 : decode cX10_seed 15 = .ok (.aload_n 0, 1) := by decide +kernel
theorem dX10_seed_16 : decode cX10_seed 16 = .ok (.iload_n 1, 1) := by decide +kernel
theorem dX10_seed_17 : decode cX10_seed 17 = .ok (.i2l, 1) := by decide +kernel
theorem dX10_seed_18 : decode cX10_seed 18 = .ok (.putfield 102, 3) := by decide +kernel
theorem dX10_seed_21 : decode cX10_seed 21 = .ok (.iconst 0, 1) := by decide +kernel
theorem dX10_seed_22 : decode cX10_seed 22 = .ok (.ireturn, 1) := by decide +kernel
theorem dX10_count_0 : decode cX10_count 0 = .ok (.iconst 0, 1) := by decide +kernel
theorem dX10_count_1 : decode cX10_count 1 = .ok (.istore_n 2, 1) := by decide +kernel
theorem dX10_count_2 : decode cX10_count 2 = .ok (.iload_n 1, 1) := by decide +kernel
theorem dX10_count_3 : decode cX10_count 3 = .ok (.tableswitch 185 0 12 #[65, 72, 80, 87, 92, 100, 108, 116, 123, 130, 137, 144, 152], 65) := by decide +kernel
theorem dX10_count_68 : decode cX10_count 68 = .ok (.aload_n 0, 1) := by decide +kernel
theorem dX10_count_69 : decode cX10_count 69 = .ok (.getfield 13, 3) := by decide +kernel
theorem dX10_count_72 : decode cX10_count 72 = .ok (.iconst 1, 1) := by decide +kernel
theorem dX10_count_73 : decode cX10_count 73 = .ok (.iaload, 1) := by decide +kernel
theorem dX10_count_74 : decode cX10_count 74 = .ok (.ireturn, 1) := by decide +kernel
theorem dX10_count_75 : decode cX10_count 75 = .ok (.aload_n 0, 1) := by decide +kernel
theorem dX10_count_76 : decode cX10_count 76 = .ok (.getfield 13, 3) := by decide +kernel
theorem dX10_count_79 : decode cX10_count 79 = .ok (.bipush 7, 2) := by decide +kernel
theorem dX10_count_81 : decode cX10_count 81 = .ok (.iaload, 1) := by decide +kernel
theorem dX10_count_82 : decode cX10_count 82 = .ok (.ireturn, 1) := by decide +kernel
theorem dX10_count_83 : decode cX10_count 83 = .ok (.aload_n 0, 1) := by decide +kernel
theorem dX10_count_84 : decode cX10_count 84 = .ok (.getfield 13, 3) := by decide +kernel
theorem dX10_count_87 : decode cX10_count 87 = .ok (.iconst 0, 1) := by decide +kernel
theorem dX10_count_88 : decode cX10_count 88 = .ok (.iaload, 1) := by decide +kernel
theorem dX10_count_89 : decode cX10_count 89 = .ok (.ireturn, 1) := by decide +kernel
theorem dX10_count_90 : decode cX10_count 90 = .ok (.aload_n 0, 1) := by decide +kernel
theorem dX10_count_91 : decode cX10_count 91 = .ok (.getfield 110, 3) := by decide +kernel
theorem dX10_count_94 : decode cX10_count 94 = .ok (.ireturn, 1) := by decide +kernel
theorem dX10_count_95 : decode cX10_count 95 = .ok (.aload_n 0, 1) := by decide +kernel
theorem dX10_count_96 : decode cX10_count 96 = .ok (.getfield 13, 3) := by decide +kernel
theorem dX10_count_99 : decode cX10_count 99 = .ok (.bipush 10, 2) := by decide +kernel
theorem dX10_count_101 : decode cX10_count 101 = .ok (.iaload, 1) := by decide +kernel
theorem dX10_count_102 : decode cX10_count 102 = .ok (.ireturn, 1) := by decide +kernel
theorem dX10_count_103 : decode cX10_count 103 = .ok (.aload_n 0, 1) := by decide +kernel
theorem dX10_count_104 : decode cX10_count 104 = .ok (.getfield 13, 3) := by decide +kernel
theorem dX10_count_107 : decode cX10_count 107 = .ok (.bipush 9, 2) := by decide +kernel
theorem dX10_count_109 : decode cX10_count 109 = .ok (.iaload, 1) := by decide +kernel
theorem dX10_count_110 : decode cX10_count 110 = .ok (.ireturn, 1) := by decide +kernel
theorem dX10_count_111 : decode cX10_count 111 = .ok (.aload_n 0, 1) := by decide +kernel
theorem dX10_count_112 : decode cX10_count 112 = .ok (.getfield 13, 3) := by decide +kernel
theorem dX10_count_115 : decode cX10_count 115 = .ok (.bipush 11, 2) := by decide +kernel
theorem dX10_count_117 : decode cX10_count 117 = .ok (.iaload, 1) := by decide +kernel
theorem dX10_count_118 : decode cX10_count 118 = .ok (.ireturn, 1) := by decide +kernel
theorem dX10_count_119 : decode cX10_count 119 = .ok (.aload_n 0, 1) := by decide +kernel
theorem dX10_count_120 : decode cX10_count 120 = .ok (.getfield 13, 3) := by decide +kernel
theorem dX10_count_123 : decode cX10_count 123 = .ok (.iconst 2, 1) := by decide +kernel
theorem dX10_count_124 : decode cX10_count 124 = .ok (.iaload, 1) := by decide +kernel
theorem dX10_count_125 : decode cX10_count 125 = .ok (.ireturn, 1) := by decide +kernel
theorem dX10_count_126 : decode cX10_count 126 = .ok (.aload_n 0, 1) := by decide +kernel
theorem dX10_count_127 : decode cX10_count 127 = .ok (.getfield 13, 3) := by decide +kernel
theorem dX10_count_130 : decode cX10_count 130 = .ok (.iconst 3, 1) := by decide +kernel
theorem dX10_count_131 : decode cX10_count 131 = .ok (.iaload, 1) := by decide +kernel
theorem dX10_count_132 : decode cX10_count 132 = .ok (.ireturn, 1) := by decide +kernel
theorem dX10_count_133 : decode cX10_count 133 = .ok (.aload_n 0, 1) := by decide +kernel
theorem dX10_count_134 : decode cX10_count 134 = .ok (.getfield 13, 3) := by decide +kernel
theorem dX10_count_137 : decode cX10_count 137 = .ok (.iconst 4, 1) := by decide +kernel
theorem dX10_count_138 : decode cX10_count 138 = .ok (.iaload, 1) := by decide +kernel
theorem dX10_count_139 : decode cX10_count 139 = .ok (.ireturn, 1) := by decide +kernel
theorem dX10_count_140 : decode cX10_count 140 = .ok (.aload_n 0, 1) := by decide +kernel
theorem dX10_count_141 : decode cX10_count 141 = .ok (.getfield 13, 3) := by decide +kernel
theorem dX10_count_144 : decode cX10_count 144 = .ok (.iconst 5, 1) := by decide +kernel
theorem dX10_count_145 : decode cX10_count 145 = .ok (.iaload, 1) := by decide +kernel
theorem dX10_count_146 : decode cX10_count 146 = .ok (.ireturn, 1) := by decide +kernel
theorem dX10_count_147 : decode cX10_count 147 = .ok (.aload_n 0, 1) := by decide +kernel
theorem dX10_count_148 : decode cX10_count 148 = .ok (.getfield 13, 3) := by decide +kernel
theorem dX10_count_151 : decode cX10_count 151 = .ok (.bipush 6, 2) := by decide +kernel
theorem dX10_count_153 : decode cX10_count 153 = .ok (.iaload, 1) := by decide +kernel
theorem dX10_count_154 : decode cX10_count 154 = .ok (.ireturn, 1) := by decide +kernel
theorem dX10_count_155 : decode cX10_count 155 = .ok (.iconst 0, 1) := by decide +kernel
theorem dX10_count_156 : decode cX10_count 156 = .ok (.istore_n 3, 1) := by decide +kernel
theorem dX10_count_157 : decode cX10_count 157 = .ok (.iload_n 3, 1) := by decide +kernel
theorem dX10_count_158 : decode cX10_count 158 = .ok (.iconst 4, 1) := by decide +kernel
theorem dX10_count_159 : decode cX10_count 159 = .ok (.if_icmp .ge 27, 3) := by decide +kernel
theorem dX10_count_162 : decode cX10_count 162 = .ok (.iload_n 2, 1) := by decide +kernel
theorem dX10_count_163 : decode cX10_count 163 = .ok (.aload_n 0, 1) := by decide +kernel
theorem dX10_count_164 : decode cX10_count 164 = .ok (.getfield 80, 3) := by decide +kernel
theorem dX10_count_167 : decode cX10_count 167 = .ok (.iload_n 3, 1) := by decide +kernel
theorem dX10_count_168 : decode cX10_count 168 = .ok (.iaload, 1) := by decide +kernel
theorem dX10_count_169 : decode cX10_count 169 = .ok (.iconst (-1), 1) := by decide +kernel
theorem dX10_count_170 : decode cX10_count 170 = .ok (.if_icmp .ne 7, 3) := by decide +kernel
theorem dX10_count_173 : decode cX10_count 173 = .ok (.iconst 0, 1) := by decide +kernel
theorem dX10_count_174 : decode cX10_count 174 = .ok (.goto 4, 3) := by decide +kernel
theorem dX10_count_177 : decode cX10_count 177 = .ok (.iconst 1, 1) := by decide +kernel
theorem dX10_count_178 : decode cX10_count 178 = .ok (.iadd, 1) := by decide +kernel
theorem dX10_count_179 : decode cX10_count 179 = .ok (.istore_n 2, 1) := by decide +kernel
theorem dX10_count_180 : decode cX10_count 180 = .ok (.iinc 3 1, 3) := by decide +kernel
theorem dX10_count_183 : decode cX10_count 183 = .ok (.goto (-26), 3) := by decide +kernel
theorem dX10_count_186 : decode cX10_count 186 = .ok (.iload_n 2, 1) := by decide +kernel
theorem dX10_count_187 : decode cX10_count 187 = .ok (.ireturn, 1) := by decide +kernel
theorem dX10_count_188 : decode cX10_count 188 = .ok (.iconst (-1), 1) := by decide +kernel
theorem dX10_count_189 : decode cX10_count 189 = .ok (.ireturn, 1) := by decide +kernel
theorem dX10_isSlot_0 : decode cX10_isSlot 0 = .ok (.iload_n 0, 1) := by decide +kernel
theorem dX10_isSlot_1 : decode cX10_isSlot 1 = .ok (.i2l, 1) := by decide +kernel
theorem dX10_isSlot_2 : decode cX10_isSlot 2 = .ok (.lconst 0, 1) := by decide +kernel
theorem dX10_isSlot_3 : decode cX10_isSlot 3 = .ok (.ldc2_w 282, 3) := by decide +kernel
theorem dX10_isSlot_6 : decode cX10_isSlot 6 = .ok (.invokestatic 98, 3) := by decide +kernel
theorem dX10_isSlot_9 : decode cX10_isSlot 9 = .ok (.ireturn, 1) := by decide +kernel
theorem dX10_cut_0 : decode cX10_cut 0 = .ok (.bipush 64, 2) := by decide +kernel
theorem dX10_cut_2 : decode cX10_cut 2 = .ok (.bipush 8, 2) := by decide +kernel
