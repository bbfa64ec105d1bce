theorem dX10_losing_165 : decode cX10_losing 165 = .ok (.if_icmp .ge 20, 3) := by decide +kernel
theorem dX10_losing_168 : decode cX10_losing 168 = .ok (.aload_n 0, 1) := by decide +kernel
theorem dX10_losing_169 : decode cX10_losing 169 = .ok (.getfield 13, 3) := by decide +kernel
theorem dX10_losing_172 : decode cX10_losing 172 = .ok (.bipush 10, 2) := by decide +kernel
theorem dX10_losing_174 : decode cX10_losing 174 = .ok (.dup2, 1) := by decide +kernel
theorem dX10_losing_175 : decode cX10_losing 175 = .ok (.iaload, 1) := by decide +kernel
theorem dX10_losing_176 : decode cX10_losing 176 = .ok (.iload_n 3, 1) := by decide +kernel
theorem dX10_losing_177 : decode cX10_losing 177 = .ok (.iload 5, 2) := by decide +kernel
theorem dX10_losing_179 : decode cX10_losing 179 = .ok (.iload 4, 2) := by decide +kernel
theorem dX10_losing_181 : decode cX10_losing 181 = .ok (.imul, 1) := by decide +kernel
theorem dX10_losing_182 : decode cX10_losing 182 = .ok (.isub, 1) := by decide +kernel
theorem dX10_losing_183 : decode cX10_losing 183 = .ok (.iadd, 1) := by decide +kernel
theorem dX10_losing_184 : decode cX10_losing 184 = .ok (.iastore, 1) := by decide +kernel
theorem dX10_losing_185 : decode cX10_losing 185 = .ok (.iload_n 3, 1) := by decide +kernel
theorem dX10_losing_186 : decode cX10_losing 186 = .ok (.ireturn, 1) := by decide +kernel
theorem dX10_lifts_0 : decode cX10_lifts 0 = .ok (.sipush 1000, 3) := by decide +kernel
theorem dX10_lifts_3 : decode cX10_lifts 3 = .ok (.istore_n 1, 1) := by decide +kernel
theorem dX10_lifts_4 : decode cX10_lifts 4 = .ok (.iconst (-1), 1) := by decide +kernel
theorem dX10_lifts_5 : decode cX10_lifts 5 = .ok (.istore_n 2, 1) := by decide +kernel
theorem dX10_lifts_6 : decode cX10_lifts 6 = .ok (.iconst 0, 1) := by decide +kernel
theorem dX10_lifts_7 : decode cX10_lifts 7 = .ok (.istore_n 3, 1) := by decide +kernel
theorem dX10_lifts_8 : decode cX10_lifts 8 = .ok (.iconst 0, 1) := by decide +kernel
theorem dX10_lifts_9 : decode cX10_lifts 9 = .ok (.istore 4, 2) := by decide +kernel
theorem dX10_lifts_11 : decode cX10_lifts 11 = .ok (.iload 4, 2) := by decide +kernel
theorem dX10_lifts_13 : decode cX10_lifts 13 = .ok (.aload_n 0, 1) := by decide +kernel
theorem dX10_lifts_14 : decode cX10_lifts 14 = .ok (.invokevirtual 295, 3) := by decide +kernel
theorem dX10_lifts_17 : decode cX10_lifts 17 = .ok (.if_icmp .ge 50, 3) := by decide +kernel
theorem dX10_lifts_20 : decode cX10_lifts 20 = .ok (.aload_n 0, 1) := by decide +kernel
theorem dX10_lifts_21 : decode cX10_lifts 21 = .ok (.iload 4, 2) := by decide +kernel
theorem dX10_lifts_23 : decode cX10_lifts 23 = .ok (.invokevirtual 279, 3) := by decide +kernel
theorem dX10_lifts_26 : decode cX10_lifts 26 = .ok (.iload_n 1, 1) := by decide +kernel
theorem dX10_lifts_27 : decode cX10_lifts 27 = .ok (.if_icmp .le 6, 3) := by decide +kernel
theorem dX10_lifts_30 : decode cX10_lifts 30 = .ok (.goto 31, 3) := by decide +kernel
theorem dX10_lifts_33 : decode cX10_lifts 33 = .ok (.aload_n 0, 1) := by decide +kernel
theorem dX10_lifts_34 : decode cX10_lifts 34 = .ok (.iload 4, 2) := by decide +kernel
theorem dX10_lifts_36 : decode cX10_lifts 36 = .ok (.invokevirtual 279, 3) := by decide +kernel
theorem dX10_lifts_39 : decode cX10_lifts 39 = .ok (.iload_n 1, 1) := by decide +kernel
theorem dX10_lifts_40 : decode cX10_lifts 40 = .ok (.if_icmp .ge 7, 3) := by decide +kernel
theorem dX10_lifts_43 : decode cX10_lifts 43 = .ok (.iconst 1, 1) := by decide +kernel
theorem dX10_lifts_44 : decode cX10_lifts 44 = .ok (.goto 6, 3) := by decide +kernel
theorem dX10_lifts_47 : decode cX10_lifts 47 = .ok (.iload_n 3, 1) := by decide +kernel
theorem dX10_lifts_48 : decode cX10_lifts 48 = .ok (.iconst 1, 1) := by decide +kernel
theorem dX10_lifts_49 : decode cX10_lifts 49 = .ok (.iadd, 1) := by decide +kernel
theorem dX10_lifts_50 : decode cX10_lifts 50 = .ok (.istore_n 3, 1) := by decide +kernel
theorem dX10_lifts_51 : decode cX10_lifts 51 = .ok (.aload_n 0, 1) := by decide +kernel
theorem dX10_lifts_52 : decode cX10_lifts 52 = .ok (.iload 4, 2) := by decide +kernel
theorem dX10_lifts_54 : decode cX10_lifts 54 = .ok (.invokevirtual 279, 3) := by decide +kernel
theorem dX10_lifts_57 : decode cX10_lifts 57 = .ok (.istore_n 1, 1) := by decide +kernel
theorem dX10_lifts_58 : decode cX10_lifts 58 = .ok (.iload 4, 2) := by decide +kernel
theorem dX10_lifts_60 : decode cX10_lifts 60 = .ok (.istore_n 2, 1) := by decide +kernel
theorem dX10_lifts_61 : decode cX10_lifts 61 = .ok (.iinc 4 1, 3) := by decide +kernel
theorem dX10_lifts_64 : decode cX10_lifts 64 = .ok (.goto (-53), 3) := by decide +kernel
theorem dX10_lifts_67 : decode cX10_lifts 67 = .ok (.sipush 1000, 3) := by decide +kernel
theorem dX10_lifts_70 : decode cX10_lifts 70 = .ok (.istore 4, 2) := by decide +kernel
theorem dX10_lifts_72 : decode cX10_lifts 72 = .ok (.iconst 0, 1) := by decide +kernel
theorem dX10_lifts_73 : decode cX10_lifts 73 = .ok (.istore 5, 2) := by decide +kernel
theorem dX10_lifts_75 : decode cX10_lifts 75 = .ok (.iload 5, 2) := by decide +kernel
theorem dX10_lifts_77 : decode cX10_lifts 77 = .ok (.aload_n 0, 1) := by decide +kernel
theorem dX10_lifts_78 : decode cX10_lifts 78 = .ok (.invokevirtual 295, 3) := by decide +kernel
theorem dX10_lifts_81 : decode cX10_lifts 81 = .ok (.if_icmp .ge 37, 3) := by decide +kernel
theorem dX10_lifts_84 : decode cX10_lifts 84 = .ok (.aload_n 0, 1) := by decide +kernel
theorem dX10_lifts_85 : decode cX10_lifts 85 = .ok (.iload 5, 2) := by decide +kernel
theorem dX10_lifts_87 : decode cX10_lifts 87 = .ok (.invokevirtual 279, 3) := by decide +kernel
theorem dX10_lifts_90 : decode cX10_lifts 90 = .ok (.iload_n 1, 1) := by decide +kernel
theorem dX10_lifts_91 : decode cX10_lifts 91 = .ok (.if_icmp .le 17, 3) := by decide +kernel
theorem dX10_lifts_94 : decode cX10_lifts 94 = .ok (.iload 4, 2) := by decide +kernel
theorem dX10_lifts_96 : decode cX10_lifts 96 = .ok (.aload_n 0, 1) := by decide +kernel
theorem dX10_lifts_97 : decode cX10_lifts 97 = .ok (.iload 5, 2) := by decide +kernel
theorem dX10_lifts_99 : decode cX10_lifts 99 = .ok (.invokevirtual 279, 3) := by decide +kernel
theorem dX10_lifts_102 : decode cX10_lifts 102 = .ok (.invokestatic 141, 3) := by decide +kernel
theorem dX10_lifts_105 : decode cX10_lifts 105 = .ok (.goto 5, 3) := by decide +kernel
theorem dX10_lifts_108 : decode cX10_lifts 108 = .ok (.iload 4, 2) := by decide +kernel
theorem dX10_lifts_110 : decode cX10_lifts 110 = .ok (.istore 4, 2) := by decide +kernel
theorem dX10_lifts_112 : decode cX10_lifts 112 = .ok (.iinc 5 1, 3) := by decide +kernel
theorem dX10_lifts_115 : decode cX10_lifts 115 = .ok (.goto (-40), 3) := by decide +kernel
theorem dX10_lifts_118 : decode cX10_lifts 118 = .ok (.iload_n 3, 1) := by decide +kernel
theorem dX10_lifts_119 : decode cX10_lifts 119 = .ok (.iconst 1, 1) := by decide +kernel
theorem dX10_lifts_120 : decode cX10_lifts 120 = .ok (.if_icmp .ne 11, 3) := by decide +kernel
theorem dX10_lifts_123 : decode cX10_lifts 123 = .ok (.iload 4, 2) := by decide +kernel
theorem dX10_lifts_125 : decode cX10_lifts 125 = .ok (.sipush 1000, 3) := by decide +kernel
theorem dX10_lifts_128 : decode cX10_lifts 128 = .ok (.if_icmp .ne 4, 3) := by decide +kernel
theorem dX10_lifts_131 : decode cX10_lifts 131 = .ok (.return_, 1) := by decide +kernel
theorem dX10_lifts_132 : decode cX10_lifts 132 = .ok (.iload 4, 2) := by decide +kernel
theorem dX10_lifts_134 : decode cX10_lifts 134 = .ok (.iload_n 1, 1) := by decide +kernel
theorem dX10_lifts_135 : decode cX10_lifts 135 = .ok (.isub, 1) := by decide +kernel
theorem dX10_lifts_136 : decode cX10_lifts 136 = .ok (.aload_n 0, 1) := by decide +kernel
theorem dX10_lifts_137 : decode cX10_lifts 137 = .ok (.getfield 13, 3) := by decide +kernel
theorem dX10_lifts_140 : decode cX10_lifts 140 = .ok (.bipush 10, 2) := by decide +kernel
theorem dX10_lifts_142 : decode cX10_lifts 142 = .ok (.iaload, 1) := by decide +kernel
theorem dX10_lifts_143 : decode cX10_lifts 143 = .ok (.invokestatic 141, 3) := by decide +kernel
theorem dX10_lifts_146 : decode cX10_lifts 146 = .ok (.istore 5, 2) := by decide +kernel
theorem dX10_lifts_148 : decode cX10_lifts 148 = .ok (.aload_n 0, 1) := by decide +kernel
theorem dX10_lifts_149 : decode cX10_lifts 149 = .ok (.getfield 13, 3) := by decide +kernel
theorem dX10_lifts_152 : decode cX10_lifts 152 = .ok (.bipush 10, 2) := by decide +kernel
theorem dX10_lifts_154 : decode cX10_lifts 154 = .ok (.dup2, 1) := by decide +kernel
theorem dX10_lifts_155 : decode cX10_lifts 155 = .ok (.iaload, 1) := by decide +kernel
theorem dX10_lifts_156 : decode cX10_lifts 156 = .ok (.iload 5, 2) := by decide +kernel
theorem dX10_lifts_158 : decode cX10_lifts 158 = .ok (.isub, 1) := by decide +kernel
theorem dX10_lifts_159 : decode cX10_lifts 159 = .ok (.iastore, 1) := by decide +kernel
theorem dX10_lifts_160 : decode cX10_lifts 160 = .ok (.aload_n 0, 1) := by decide +kernel
theorem dX10_lifts_161 : decode cX10_lifts 161 = .ok (.iload_n 2, 1) := by decide +kernel
theorem dX10_lifts_162 : decode cX10_lifts 162 = .ok (.aload_n 0, 1) := by decide +kernel
theorem dX10_lifts_163 : decode cX10_lifts 163 = .ok (.iload_n 2, 1) := by decide +kernel
theorem dX10_lifts_164 : decode cX10_lifts 164 = .ok (.iconst 0, 1) := by decide +kernel
theorem dX10_lifts_165 : decode cX10_lifts 165 = .ok (.invokevirtual 276, 3) := by decide +kernel
theorem dX10_lifts_168 : decode cX10_lifts 168 = .ok (.iload 5, 2) := by decide +kernel
theorem dX10_lifts_170 : decode cX10_lifts 170 = .ok (.iadd, 1) := by decide +kernel
theorem dX10_lifts_171 : decode cX10_lifts 171 = .ok (.invokevirtual 284, 3) := by decide +kernel
theorem dX10_lifts_174 : decode cX10_lifts 174 = .ok (.return_, 1) := by decide +kernel
theorem dX10_strikesPlainly_0 : decode cX10_strikesPlainly 0 = .ok (.aload_n 0, 1) := by decide +kernel
theorem dX10_strikesPlainly_1 : decode cX10_strikesPlainly 1 = .ok (.invokevirtual 319, 3) := by decide +kernel
theorem dX10_strikesPlainly_4 : decode cX10_strikesPlainly 4 = .ok (.istore_n 1, 1) := by decide +kernel
theorem dX10_strikesPlainly_5 : decode cX10_strikesPlainly 5 = .ok (.aload_n 0, 1) := by decide +kernel
theorem dX10_strikesPlainly_6 : decode cX10_strikesPlainly 6 = .ok (.getfield 13, 3) := by decide +kernel
theorem dX10_strikesPlainly_9 : decode cX10_strikesPlainly 9 = .ok (.iconst 5, 1) := by decide +kernel
theorem dX10_strikesPlainly_10 : decode cX10_strikesPlainly 10 = .ok (.iaload, 1) := by decide +kernel
theorem dX10_strikesPlainly_11 : decode cX10_strikesPlainly 11 = .ok (.iconst 1, 1) := by decide +kernel
theorem dX10_strikesPlainly_12 : decode cX10_strikesPlainly 12 = .ok (.if_icmp .ne 17, 3) := by decide +kernel
theorem dX10_strikesPlainly_15 : decode cX10_strikesPlainly 15 = .ok (.aload_n 0, 1) := by decide +kernel
theorem dX10_strikesPlainly_16 : decode cX10_strikesPlainly 16 = .ok (.getfield 13, 3) := by decide +kernel
theorem dX10_strikesPlainly_19 : decode cX10_strikesPlainly 19 = .ok (.bipush 13, 2) := by decide +kernel
theorem dX10_strikesPlainly_21 : decode cX10_strikesPlainly 21 = .ok (.iaload, 1) := by decide +kernel
theorem dX10_strikesPlainly_22 : decode cX10_strikesPlainly 22 = .ok (.ifCond .ne 7, 3) := by decide +kernel
theorem dX10_strikesPlainly_25 : decode cX10_strikesPlainly 25 = .ok (.aload_n 0, 1) := by decide +kernel
theorem dX10_strikesPlainly_26 : decode cX10_strikesPlainly 26 = .ok (.invokevirtual 322, 3) := by decide +kernel
theorem dX10_strikesPlainly_29 : decode cX10_strikesPlainly 29 = .ok (.iload_n 1, 1) := by decide +kernel
theorem dX10_strikesPlainly_30 : decode cX10_strikesPlainly 30 = .ok (.ireturn, 1) := by decide +kernel
theorem dX10_finds_0 : decode cX10_finds 0 = .ok (.iconst 0, 1) := by decide +kernel
theorem dX10_finds_1 : decode cX10_finds 1 = .ok (.istore_n 1, 1) := by decide +kernel
theorem dX10_finds_2 : decode cX10_finds 2 = .ok (.iload_n 1, 1) := by decide +kernel
theorem dX10_finds_3 : decode cX10_finds 3 = .ok (.aload_n 0, 1) := by decide +kernel
theorem dX10_finds_4 : decode cX10_finds 4 = .ok (.invokevirtual 295, 3) := by decide +kernel
theorem dX10_finds_7 : decode cX10_finds 7 = .ok (.if_icmp .ge 83, 3) := by decide +kernel
theorem dX10_finds_10 : decode cX10_finds 10 = .ok (.aload_n 0, 1) := by decide +kernel
theorem dX10_finds_11 : decode cX10_finds 11 = .ok (.getfield 13, 3) := by decide +kernel
theorem dX10_finds_14 : decode cX10_finds 14 = .ok (.bipush 6, 2) := by decide +kernel
theorem dX10_finds_16 : decode cX10_finds 16 = .ok (.iaload, 1) := by decide +kernel
theorem dX10_finds_17 : decode cX10_finds 17 = .ok (.ifCond .le 73, 3) := by decide +kernel
theorem dX10_finds_20 : decode cX10_finds 20 = .ok (.aload_n 0, 1) := by decide +kernel
theorem dX10_finds_21 : decode cX10_finds 21 = .ok (.iload_n 1, 1) := by decide +kernel
theorem dX10_finds_22 : decode cX10_finds 22 = .ok (.iconst 1, 1) := by decide +kernel
theorem dX10_finds_23 : decode cX10_finds 23 = .ok (.invokevirtual 276, 3) := by decide +kernel
theorem dX10_finds_26 : decode cX10_finds 26 = .ok (.ifCond .eq 58, 3) := by decide +kernel
theorem dX10_finds_29 : decode cX10_finds 29 = .ok (.aload_n 0, 1) := by decide +kernel
theorem dX10_finds_30 : decode cX10_finds 30 = .ok (.invokevirtual 325, 3) := by decide +kernel
theorem dX10_finds_33 : decode cX10_finds 33 = .ok (.aload_n 0, 1) := by decide +kernel
theorem dX10_finds_34 : decode cX10_finds 34 = .ok (.getfield 13, 3) := by decide +kernel
theorem dX10_finds_37 : decode cX10_finds 37 = .ok (.bipush 6, 2) := by decide +kernel
theorem dX10_finds_39 : decode cX10_finds 39 = .ok (.iaload, 1) := by decide +kernel
theorem dX10_finds_40 : decode cX10_finds 40 = .ok (.if_icmp .lt 6, 3) := by decide +kernel
theorem dX10_finds_43 : decode cX10_finds 43 = .ok (.goto 41, 3) := by decide +kernel
theorem dX10_finds_46 : decode cX10_finds 46 = .ok (.aload_n 0, 1) := by decide +kernel
theorem dX10_finds_47 : decode cX10_finds 47 = .ok (.iload_n 1, 1) := by decide +kernel
theorem dX10_finds_48 : decode cX10_finds 48 = .ok (.iconst 1, 1) := by decide +kernel
theorem dX10_finds_49 : decode cX10_finds 49 = .ok (.invokevirtual 276, 3) := by decide +kernel
theorem dX10_finds_52 : decode cX10_finds 52 = .ok (.istore_n 2, 1) := by decide +kernel
theorem dX10_finds_53 : decode cX10_finds 53 = .ok (.aload_n 0, 1) := by decide +kernel
theorem dX10_finds_54 : decode cX10_finds 54 = .ok (.getfield 13, 3) := by decide +kernel
theorem dX10_finds_57 : decode cX10_finds 57 = .ok (.bipush 10, 2) := by decide +kernel
theorem dX10_finds_59 : decode cX10_finds 59 = .ok (.dup2, 1) := by decide +kernel
theorem dX10_finds_60 : decode cX10_finds 60 = .ok (.iaload, 1) := by decide +kernel
theorem dX10_finds_61 : decode cX10_finds 61 = .ok (.iload_n 2, 1) := by decide +kernel
theorem dX10_finds_62 : decode cX10_finds 62 = .ok (.iadd, 1) := by decide +kernel
theorem dX10_finds_63 : decode cX10_finds 63 = .ok (.iastore, 1) := by decide +kernel
theorem dX10_finds_64 : decode cX10_finds 64 = .ok (.aload_n 0, 1) := by decide +kernel
theorem dX10_finds_65 : decode cX10_finds 65 = .ok (.iload_n 1, 1) := by decide +kernel
theorem dX10_finds_66 : decode cX10_finds 66 = .ok (.iconst 1, 1) := by decide +kernel
theorem dX10_finds_67 : decode cX10_finds 67 = .ok (.iconst 0, 1) := by decide +kernel
theorem dX10_finds_68 : decode cX10_finds 68 = .ok (.invokevirtual 272, 3) := by decide +kernel
theorem dX10_finds_71 : decode cX10_finds 71 = .ok (.aload_n 0, 1) := by decide +kernel
theorem dX10_finds_72 : decode cX10_finds 72 = .ok (.iload_n 1, 1) := by decide +kernel
theorem dX10_finds_73 : decode cX10_finds 73 = .ok (.aload_n 0, 1) := by decide +kernel
theorem dX10_finds_74 : decode cX10_finds 74 = .ok (.iload_n 1, 1) := by decide +kernel
theorem dX10_finds_75 : decode cX10_finds 75 = .ok (.iconst 0, 1) := by decide +kernel
theorem dX10_finds_76 : decode cX10_finds 76 = .ok (.invokevirtual 276, 3) := by decide +kernel
theorem dX10_finds_79 : decode cX10_finds 79 = .ok (.iload_n 2, 1) := by decide +kernel
theorem dX10_finds_80 : decode cX10_finds 80 = .ok (.isub, 1) := by decide +kernel
theorem dX10_finds_81 : decode cX10_finds 81 = .ok (.invokevirtual 284, 3) := by decide +kernel
theorem dX10_finds_84 : decode cX10_finds 84 = .ok (.iinc 1 1, 3) := by decide +kernel
theorem dX10_finds_87 : decode cX10_finds 87 = .ok (.goto (-85), 3) := by decide +kernel
theorem dX10_finds_90 : decode cX10_finds 90 = .ok (.return_, 1) := by decide +kernel
theorem dX10_returnsLoans_0 : decode cX10_returnsLoans 0 = .ok (.iconst 0, 1) := by decide +kernel
theorem dX10_returnsLoans_1 : decode cX10_returnsLoans 1 = .ok (.istore_n 1, 1) := by decide +kernel
theorem dX10_returnsLoans_2 : decode cX10_returnsLoans 2 = .ok (.iload_n 1, 1) := by decide +kernel
theorem dX10_returnsLoans_3 : decode cX10_returnsLoans 3 = .ok (.aload_n 0, 1) := by decide +kernel
theorem dX10_returnsLoans_4 : decode cX10_returnsLoans 4 = .ok (.getfield 13, 3) := by decide +kernel
theorem dX10_returnsLoans_7 : decode cX10_returnsLoans 7 = .ok (.bipush 9, 2) := by decide +kernel
theorem dX10_returnsLoans_9 : decode cX10_returnsLoans 9 = .ok (.iaload, 1) := by decide +kernel
theorem dX10_returnsLoans_10 : decode cX10_returnsLoans 10 = .ok (.if_icmp .ge 90, 3) := by decide +kernel
theorem dX10_returnsLoans_13 : decode cX10_returnsLoans 13 = .ok (.aload_n 0, 1) := by decide +kernel
theorem dX10_returnsLoans_14 : decode cX10_returnsLoans 14 = .ok (.getfield 13, 3) := by decide +kernel
theorem dX10_returnsLoans_17 : decode cX10_returnsLoans 17 = .ok (.sipush 160, 3) := by decide +kernel
theorem dX10_returnsLoans_20 : decode cX10_returnsLoans 20 = .ok (.iconst 3, 1) := by decide +kernel
theorem dX10_returnsLoans_21 : decode cX10_returnsLoans 21 = .ok (.iload_n 1, 1) := by decide +kernel
theorem dX10_returnsLoans_22 : decode cX10_returnsLoans 22 = .ok (.imul, 1) := by decide +kernel
theorem dX10_returnsLoans_23 : decode cX10_returnsLoans 23 = .ok (.iadd, 1) := by decide +kernel
theorem dX10_returnsLoans_24 : decode cX10_returnsLoans 24 = .ok (.iaload, 1) := by decide +kernel
theorem dX10_returnsLoans_25 : decode cX10_returnsLoans 25 = .ok (.istore_n 2, 1) := by decide +kernel
theorem dX10_returnsLoans_26 : decode cX10_returnsLoans 26 = .ok (.aload_n 0, 1) := by decide +kernel
theorem dX10_returnsLoans_27 : decode cX10_returnsLoans 27 = .ok (.getfield 13, 3) := by decide +kernel
theorem dX10_returnsLoans_30 : decode cX10_returnsLoans 30 = .ok (.sipush 160, 3) := by decide +kernel
theorem dX10_returnsLoans_33 : decode cX10_returnsLoans 33 = .ok (.iconst 3, 1) := by decide +kernel
theorem dX10_returnsLoans_34 : decode cX10_returnsLoans 34 = .ok (.iload_n 1, 1) := by decide +kernel
theorem dX10_returnsLoans_35 : decode cX10_returnsLoans 35 = .ok (.imul, 1) := by decide +kernel
theorem dX10_returnsLoans_36 : decode cX10_returnsLoans 36 = .ok (.iadd, 1) := by decide +kernel
theorem dX10_returnsLoans_37 : decode cX10_returnsLoans 37 = .ok (.iconst 1, 1) := by decide +kernel
theorem dX10_returnsLoans_38 : decode cX10_returnsLoans 38 = .ok (.iadd, 1) := by decide +kernel
theorem dX10_returnsLoans_39 : decode cX10_returnsLoans 39 = .ok (.iaload, 1) := by decide +kernel
theorem dX10_returnsLoans_40 : decode cX10_returnsLoans 40 = .ok (.istore_n 3, 1) := by decide +kernel
theorem dX10_returnsLoans_41 : decode cX10_returnsLoans 41 = .ok (.aload_n 0, 1) := by decide +kernel
theorem dX10_returnsLoans_42 : decode cX10_returnsLoans 42 = .ok (.getfield 13, 3) := by decide +kernel
theorem dX10_returnsLoans_45 : decode cX10_returnsLoans 45 = .ok (.sipush 160, 3) := by decide +kernel
theorem dX10_returnsLoans_48 : decode cX10_returnsLoans 48 = .ok (.iconst 3, 1) := by decide +kernel
theorem dX10_returnsLoans_49 : decode cX10_returnsLoans 49 = .ok (.iload_n 1, 1) := by decide +kernel
theorem dX10_returnsLoans_50 : decode cX10_returnsLoans 50 = .ok (.imul, 1) := by decide +kernel
theorem dX10_returnsLoans_51 : decode cX10_returnsLoans 51 = .ok (.iadd, 1) := by decide +kernel
theorem dX10_returnsLoans_52 : decode cX10_returnsLoans 52 = .ok (.iconst 2, 1) := by decide +kernel
theorem dX10_returnsLoans_53 : decode cX10_returnsLoans 53 = .ok (.iadd, 1) := by decide +kernel
theorem dX10_returnsLoans_54 : decode cX10_returnsLoans 54 = .ok (.iaload, 1) := by decide +kernel
theorem dX10_returnsLoans_55 : decode cX10_returnsLoans 55 = .ok (.aload_n 0, 1) := by decide +kernel
theorem dX10_returnsLoans_56 : decode cX10_returnsLoans 56 = .ok (.iload_n 3, 1) := by decide +kernel
theorem dX10_returnsLoans_57 : decode cX10_returnsLoans 57 = .ok (.iconst 0, 1) := by decide +kernel
theorem dX10_returnsLoans_58 : decode cX10_returnsLoans 58 = .ok (.invokevirtual 276, 3) := by decide +kernel
theorem dX10_returnsLoans_61 : decode cX10_returnsLoans 61 = .ok (.invokestatic 141, 3) := by decide +kernel
theorem dX10_returnsLoans_64 : decode cX10_returnsLoans 64 = .ok (.istore 4, 2) := by decide +kernel
theorem dX10_returnsLoans_66 : decode cX10_returnsLoans 66 = .ok (.aload_n 0, 1) := by decide +kernel
theorem dX10_returnsLoans_67 : decode cX10_returnsLoans 67 = .ok (.iload_n 3, 1) := by decide +kernel
theorem dX10_returnsLoans_68 : decode cX10_returnsLoans 68 = .ok (.aload_n 0, 1) := by decide +kernel
theorem dX10_returnsLoans_69 : decode cX10_returnsLoans 69 = .ok (.iload_n 3, 1) := by decide +kernel
theorem dX10_returnsLoans_70 : decode cX10_returnsLoans 70 = .ok (.iconst 0, 1) := by decide +kernel
theorem dX10_returnsLoans_71 : decode cX10_returnsLoans 71 = .ok (.invokevirtual 276, 3) := by decide +kernel
theorem dX10_returnsLoans_74 : decode cX10_returnsLoans 74 = .ok (.iload 4, 2) := by decide +kernel
theorem dX10_returnsLoans_76 : decode cX10_returnsLoans 76 = .ok (.isub, 1) := by decide +kernel
theorem dX10_returnsLoans_77 : decode cX10_returnsLoans 77 = .ok (.invokevirtual 284, 3) := by decide +kernel
theorem dX10_returnsLoans_80 : decode cX10_returnsLoans 80 = .ok (.aload_n 0, 1) := by decide +kernel
theorem dX10_returnsLoans_81 : decode cX10_returnsLoans 81 = .ok (.iload_n 2, 1) := by decide +kernel
theorem dX10_returnsLoans_82 : decode cX10_returnsLoans 82 = .ok (.aload_n 0, 1) := by decide +kernel
theorem dX10_returnsLoans_83 : decode cX10_returnsLoans 83 = .ok (.iload_n 2, 1) := by decide +kernel
theorem dX10_returnsLoans_84 : decode cX10_returnsLoans 84 = .ok (.iconst 0, 1) := by decide +kernel
theorem dX10_returnsLoans_85 : decode cX10_returnsLoans 85 = .ok (.invokevirtual 276, 3) := by decide +kernel
theorem dX10_returnsLoans_88 : decode cX10_returnsLoans 88 = .ok (.iload 4, 2) := by decide +kernel
theorem dX10_returnsLoans_90 : decode cX10_returnsLoans 90 = .ok (.iadd, 1) := by decide +kernel
theorem dX10_returnsLoans_91 : decode cX10_returnsLoans 91 = .ok (.invokevirtual 284, 3) := by decide +kernel
theorem dX10_returnsLoans_94 : decode cX10_returnsLoans 94 = .ok (.iinc 1 1, 3) := by decide +kernel
theorem dX10_returnsLoans_97 : decode cX10_returnsLoans 97 = .ok (.goto (-95), 3) := by decide +kernel
theorem dX10_returnsLoans_100 : decode cX10_returnsLoans 100 = .ok (.aload_n 0, 1) := by decide +kernel
theorem dX10_returnsLoans_101 : decode cX10_returnsLoans 101 = .ok (.getfield 13, 3) := by decide +kernel
theorem dX10_returnsLoans_104 : decode cX10_returnsLoans 104 = .ok (.bipush 9, 2) := by decide +kernel
theorem dX10_returnsLoans_106 : decode cX10_returnsLoans 106 = .ok (.iconst 0, 1) := by decide +kernel
theorem dX10_returnsLoans_107 : decode cX10_returnsLoans 107 = .ok (.iastore, 1) := by decide +kernel
theorem dX10_returnsLoans_108 : decode cX10_returnsLoans 108 = .ok (.return_, 1) := by decide +kernel
theorem dX10_strikes_0 : decode cX10_strikes 0 = .ok (.aload_n 0, 1) := by decide +kernel
theorem dX10_strikes_1 : decode cX10_strikes 1 = .ok (.getfield 13, 3) := by decide +kernel
theorem dX10_strikes_4 : decode cX10_strikes 4 = .ok (.bipush 13, 2) := by decide +kernel
theorem dX10_strikes_6 : decode cX10_strikes 6 = .ok (.iaload, 1) := by decide +kernel
theorem dX10_strikes_7 : decode cX10_strikes 7 = .ok (.iconst 1, 1) := by decide +kernel
theorem dX10_strikes_8 : decode cX10_strikes 8 = .ok (.if_icmp .ne 5, 3) := by decide +kernel
theorem dX10_strikes_11 : decode cX10_strikes 11 = .ok (.iconst 0, 1) := by decide +kernel
theorem dX10_strikes_12 : decode cX10_strikes 12 = .ok (.ireturn, 1) := by decide +kernel
theorem dX10_strikes_13 : decode cX10_strikes 13 = .ok (.aload_n 0, 1) := by decide +kernel
theorem dX10_strikes_14 : decode cX10_strikes 14 = .ok (.invokevirtual 328, 3) := by decide +kernel
theorem dX10_strikes_17 : decode cX10_strikes 17 = .ok (.istore_n 1, 1) := by decide +kernel
theorem dX10_strikes_18 : decode cX10_strikes 18 = .ok (.aload_n 0, 1) := by decide +kernel
theorem dX10_strikes_19 : decode cX10_strikes 19 = .ok (.invokevirtual 331, 3) := by decide +kernel
theorem dX10_strikes_22 : decode cX10_strikes 22 = .ok (.aload_n 0, 1) := by decide +kernel
theorem dX10_strikes_23 : decode cX10_strikes 23 = .ok (.invokevirtual 334, 3) := by decide +kernel
theorem dX10_strikes_26 : decode cX10_strikes 26 = .ok (.iload_n 1, 1) := by decide +kernel
theorem dX10_strikes_27 : decode cX10_strikes 27 = .ok (.ireturn, 1) := by decide +kernel
theorem dX10_stroke_0 : decode cX10_stroke 0 = .ok (.aload_n 0, 1) := by decide +kernel
theorem dX10_stroke_1 : decode cX10_stroke 1 = .ok (.invokevirtual 295, 3) := by decide +kernel
theorem dX10_stroke_4 : decode cX10_stroke 4 = .ok (.ifCond .le 10, 3) := by decide +kernel
theorem dX10_stroke_7 : decode cX10_stroke 7 = .ok (.aload_n 0, 1) := by decide +kernel
theorem dX10_stroke_8 : decode cX10_stroke 8 = .ok (.invokevirtual 337, 3) := by decide +kernel
theorem dX10_stroke_11 : decode cX10_stroke 11 = .ok (.goto 5, 3) := by decide +kernel
theorem dX10_stroke_14 : decode cX10_stroke 14 = .ok (.bipush (-2), 2) := by decide +kernel
theorem dX10_stroke_16 : decode cX10_stroke 16 = .ok (.ireturn, 1) := by decide +kernel
theorem dX10_joy_0 : decode cX10_joy 0 = .ok (.iconst 0, 1) := by decide +kernel
theorem dX10_joy_1 : decode cX10_joy 1 = .ok (.istore_n 3, 1) := by decide +kernel
theorem dX10_joy_2 : decode cX10_joy 2 = .ok (.iconst 0, 1) := by decide +kernel
theorem dX10_joy_3 : decode cX10_joy 3 = .ok (.istore 4, 2) := by decide +kernel
theorem dX10_joy_5 : decode cX10_joy 5 = .ok (.iload 4, 2) := by decide +kernel
theorem dX10_joy_7 : decode cX10_joy 7 = .ok (.iload_n 2, 1) := by decide +kernel
theorem dX10_joy_8 : decode cX10_joy 8 = .ok (.if_icmp .ge 34, 3) := by decide +kernel
theorem dX10_joy_11 : decode cX10_joy 11 = .ok (.iload_n 3, 1) := by decide +kernel
theorem dX10_joy_12 : decode cX10_joy 12 = .ok (.iconst 0, 1) := by decide +kernel
theorem dX10_joy_13 : decode cX10_joy 13 = .ok (.aload_n 0, 1) := by decide +kernel
theorem dX10_joy_14 : decode cX10_joy 14 = .ok (.iload_n 1, 1) := by decide +kernel
theorem dX10_joy_15 : decode cX10_joy 15 = .ok (.bipush 8, 2) := by decide +kernel
theorem dX10_joy_17 : decode cX10_joy 17 = .ok (.invokevirtual 276, 3) := by decide +kernel
theorem dX10_joy_20 : decode cX10_joy 20 = .ok (.iload 4, 2) := by decide +kernel
theorem dX10_joy_22 : decode cX10_joy 22 = .ok (.aload_n 0, 1) := by decide +kernel
theorem dX10_joy_23 : decode cX10_joy 23 = .ok (.iload_n 1, 1) := by decide +kernel
theorem dX10_joy_24 : decode cX10_joy 24 = .ok (.bipush 9, 2) := by decide +kernel
theorem dX10_joy_26 : decode cX10_joy 26 = .ok (.invokevirtual 276, 3) := by decide +kernel
theorem dX10_joy_29 : decode cX10_joy 29 = .ok (.imul, 1) := by decide +kernel
theorem dX10_joy_30 : decode cX10_joy 30 = .ok (.isub, 1) := by decide +kernel
theorem dX10_joy_31 : decode cX10_joy 31 = .ok (.invokestatic 298, 3) := by decide +kernel
theorem dX10_joy_34 : decode cX10_joy 34 = .ok (.iadd, 1) := by decide +kernel
theorem dX10_joy_35 : decode cX10_joy 35 = .ok (.istore_n 3, 1) := by decide +kernel
theorem dX10_joy_36 : decode cX10_joy 36 = .ok (.iinc 4 1, 3) := by decide +kernel
theorem dX10_joy_39 : decode cX10_joy 39 = .ok (.goto (-34), 3) := by decide +kernel
theorem dX10_joy_42 : decode cX10_joy 42 = .ok (.iload_n 3, 1) := by decide +kernel
theorem dX10_joy_43 : decode cX10_joy 43 = .ok (.ireturn, 1) := by decide +kernel
theorem dX10_worked_0 : decode cX10_worked 0 = .ok (.aload_n 0, 1) := by decide +kernel
theorem dX10_worked_1 : decode cX10_worked 1 = .ok (.getfield 13, 3) := by decide +kernel
theorem dX10_worked_4 : decode cX10_worked 4 = .ok (.iconst 1, 1) := by decide +kernel
theorem dX10_worked_5 : decode cX10_worked 5 = .ok (.iaload, 1) := by decide +kernel
theorem dX10_worked_6 : decode cX10_worked 6 = .ok (.aload_n 0, 1) := by decide +kernel
theorem dX10_worked_7 : decode cX10_worked 7 = .ok (.iload_n 1, 1) := by decide +kernel
theorem dX10_worked_8 : decode cX10_worked 8 = .ok (.iconst 0, 1) := by decide +kernel
theorem dX10_worked_9 : decode cX10_worked 9 = .ok (.invokevirtual 276, 3) := by decide +kernel
theorem dX10_worked_12 : decode cX10_worked 12 = .ok (.iload_n 2, 1) := by decide +kernel
theorem dX10_worked_13 : decode cX10_worked 13 = .ok (.iconst 1, 1) := by decide +kernel
theorem dX10_worked_14 : decode cX10_worked 14 = .ok (.if_icmp .ne 12, 3) := by decide +kernel
theorem dX10_worked_17 : decode cX10_worked 17 = .ok (.aload_n 0, 1) := by decide +kernel
theorem dX10_worked_18 : decode cX10_worked 18 = .ok (.iload_n 1, 1) := by decide +kernel
theorem dX10_worked_19 : decode cX10_worked 19 = .ok (.iconst 5, 1) := by decide +kernel
theorem dX10_worked_20 : decode cX10_worked 20 = .ok (.invokevirtual 276, 3) := by decide +kernel
theorem dX10_worked_23 : decode cX10_worked 23 = .ok (.goto 4, 3) := by decide +kernel
theorem dX10_worked_26 : decode cX10_worked 26 = .ok (.iconst 0, 1) := by decide +kernel
theorem dX10_worked_27 : decode cX10_worked 27 = .ok (.iadd, 1) := by decide +kernel
theorem dX10_worked_28 : decode cX10_worked 28 = .ok (.invokestatic 141, 3) := by decide +kernel
theorem dX10_worked_31 : decode cX10_worked 31 = .ok (.ireturn, 1) := by decide +kernel
theorem dX10_why_0 : decode cX10_why 0 = .ok (.aload_n 0, 1) := by decide +kernel
theorem dX10_why_1 : decode cX10_why 1 = .ok (.iload_n 1, 1) := by decide +kernel
theorem dX10_why_2 : decode cX10_why 2 = .ok (.invokevirtual 106, 3) := by decide +kernel
theorem dX10_why_5 : decode cX10_why 5 = .ok (.ifCond .eq 50, 3) := by decide +kernel
theorem dX10_why_8 : decode cX10_why 8 = .ok (.iload_n 2, 1) := by decide +kernel
theorem dX10_why_9 : decode cX10_why 9 = .ok (.i2l, 1) := by decide +kernel
theorem dX10_why_10 : decode cX10_why 10 = .ok (.lconst 0, 1) := by decide +kernel
theorem dX10_why_11 : decode cX10_why 11 = .ok (.lconst 1, 1) := by decide +kernel
theorem dX10_why_12 : decode cX10_why 12 = .ok (.invokestatic 98, 3) := by decide +kernel
theorem dX10_why_15 : decode cX10_why 15 = .ok (.ifCond .eq 40, 3) := by decide +kernel
theorem dX10_why_18 : decode cX10_why 18 = .ok (.iload_n 3, 1) := by decide +kernel
theorem dX10_why_19 : decode cX10_why 19 = .ok (.ifCond .lt 36, 3) := by decide +kernel
theorem dX10_why_22 : decode cX10_why 22 = .ok (.iload 4, 2) := by decide +kernel
theorem dX10_why_24 : decode cX10_why 24 = .ok (.ifCond .lt 31, 3) := by decide +kernel
theorem dX10_why_27 : decode cX10_why 27 = .ok (.iload 4, 2) := by decide +kernel
theorem dX10_why_29 : decode cX10_why 29 = .ok (.ifCond .ne 12, 3) := by decide +kernel
theorem dX10_why_32 : decode cX10_why 32 = .ok (.iload 5, 2) := by decide +kernel
theorem dX10_why_34 : decode cX10_why 34 = .ok (.iconst (-1), 1) := by decide +kernel
theorem dX10_why_35 : decode cX10_why 35 = .ok (.if_icmp .ne 20, 3) := by decide +kernel
theorem dX10_why_38 : decode cX10_why 38 = .ok (.goto 13, 3) := by decide +kernel
theorem dX10_why_41 : decode cX10_why 41 = .ok (.aload_n 0, 1) := by decide +kernel
theorem dX10_why_42 : decode cX10_why 42 = .ok (.iload_n 1, 1) := by decide +kernel
theorem dX10_why_43 : decode cX10_why 43 = .ok (.iload 5, 2) := by decide +kernel
theorem dX10_why_45 : decode cX10_why 45 = .ok (.invokevirtual 289, 3) := by decide +kernel
theorem dX10_why_48 : decode cX10_why 48 = .ok (.ifCond .eq 7, 3) := by decide +kernel
theorem dX10_why_51 : decode cX10_why 51 = .ok (.iconst 1, 1) := by decide +kernel
theorem dX10_why_52 : decode cX10_why 52 = .ok (.goto 4, 3) := by decide +kernel
theorem dX10_why_55 : decode cX10_why 55 = .ok (.iconst 0, 1) := by decide +kernel
theorem dX10_why_56 : decode cX10_why 56 = .ok (.istore 6, 2) := by decide +kernel
theorem dX10_why_58 : decode cX10_why 58 = .ok (.iload 6, 2) := by decide +kernel
theorem dX10_why_60 : decode cX10_why 60 = .ok (.ifCond .ne 8, 3) := by decide +kernel
theorem dX10_why_63 : decode cX10_why 63 = .ok (.bipush (-2), 2) := by decide +kernel
theorem dX10_why_65 : decode cX10_why 65 = .ok (.goto 26, 3) := by decide +kernel
theorem dX10_why_68 : decode cX10_why 68 = .ok (.iload_n 3, 1) := by decide +kernel
theorem dX10_why_69 : decode cX10_why 69 = .ok (.i2l, 1) := by decide +kernel
theorem dX10_why_70 : decode cX10_why 70 = .ok (.iload 4, 2) := by decide +kernel
theorem dX10_why_72 : decode cX10_why 72 = .ok (.i2l, 1) := by decide +kernel
theorem dX10_why_73 : decode cX10_why 73 = .ok (.ladd, 1) := by decide +kernel
theorem dX10_why_74 : decode cX10_why 74 = .ok (.aload_n 0, 1) := by decide +kernel
theorem dX10_why_75 : decode cX10_why 75 = .ok (.iload_n 1, 1) := by decide +kernel
theorem dX10_why_76 : decode cX10_why 76 = .ok (.iload_n 2, 1) := by decide +kernel
theorem dX10_why_77 : decode cX10_why 77 = .ok (.invokevirtual 340, 3) := by decide +kernel
theorem dX10_why_80 : decode cX10_why 80 = .ok (.i2l, 1) := by decide +kernel
theorem dX10_why_81 : decode cX10_why 81 = .ok (.lcmp, 1) := by decide +kernel
theorem dX10_why_82 : decode cX10_why 82 = .ok (.ifCond .le 8, 3) := by decide +kernel
theorem dX10_why_85 : decode cX10_why 85 = .ok (.bipush (-5), 2) := by decide +kernel
theorem dX10_why_87 : decode cX10_why 87 = .ok (.goto 4, 3) := by decide +kernel
theorem dX10_why_90 : decode cX10_why 90 = .ok (.iconst 0, 1) := by decide +kernel
theorem dX10_why_91 : decode cX10_why 91 = .ok (.ireturn, 1) := by decide +kernel
theorem dX10_acts_0 : decode cX10_acts 0 = .ok (.aload_n 0, 1) := by decide +kernel
theorem dX10_acts_1 : decode cX10_acts 1 = .ok (.iload_n 1, 1) := by decide +kernel
theorem dX10_acts_2 : decode cX10_acts 2 = .ok (.aload_n 0, 1) := by decide +kernel
theorem dX10_acts_3 : decode cX10_acts 3 = .ok (.iload_n 1, 1) := by decide +kernel
theorem dX10_acts_4 : decode cX10_acts 4 = .ok (.iload_n 2, 1) := by decide +kernel
theorem dX10_acts_5 : decode cX10_acts 5 = .ok (.invokevirtual 340, 3) := by decide +kernel
theorem dX10_acts_8 : decode cX10_acts 8 = .ok (.invokevirtual 284, 3) := by decide +kernel
theorem dX10_acts_11 : decode cX10_acts 11 = .ok (.aload_n 0, 1) := by decide +kernel
theorem dX10_acts_12 : decode cX10_acts 12 = .ok (.iload_n 1, 1) := by decide +kernel
theorem dX10_acts_13 : decode cX10_acts 13 = .ok (.aload_n 0, 1) := by decide +kernel
theorem dX10_acts_14 : decode cX10_acts 14 = .ok (.iload_n 1, 1) := by decide +kernel
theorem dX10_acts_15 : decode cX10_acts 15 = .ok (.iconst 0, 1) := by decide +kernel
theorem dX10_acts_16 : decode cX10_acts 16 = .ok (.invokevirtual 276, 3) := by decide +kernel
theorem dX10_acts_19 : decode cX10_acts 19 = .ok (.iload_n 3, 1) := by decide +kernel
theorem dX10_acts_20 : decode cX10_acts 20 = .ok (.isub, 1) := by decide +kernel
theorem dX10_acts_21 : decode cX10_acts 21 = .ok (.iload 4, 2) := by decide +kernel
theorem dX10_acts_23 : decode cX10_acts 23 = .ok (.isub, 1) := by decide +kernel
theorem dX10_acts_24 : decode cX10_acts 24 = .ok (.invokevirtual 284, 3) := by decide +kernel
theorem dX10_acts_27 : decode cX10_acts 27 = .ok (.iload 4, 2) := by decide +kernel
theorem dX10_acts_29 : decode cX10_acts 29 = .ok (.ifCond .le 19, 3) := by decide +kernel
theorem dX10_acts_32 : decode cX10_acts 32 = .ok (.aload_n 0, 1) := by decide +kernel
theorem dX10_acts_33 : decode cX10_acts 33 = .ok (.iload 5, 2) := by decide +kernel
theorem dX10_acts_35 : decode cX10_acts 35 = .ok (.aload_n 0, 1) := by decide +kernel
theorem dX10_acts_36 : decode cX10_acts 36 = .ok (.iload 5, 2) := by decide +kernel
theorem dX10_acts_38 : decode cX10_acts 38 = .ok (.iconst 0, 1) := by decide +kernel
theorem dX10_acts_39 : decode cX10_acts 39 = .ok (.invokevirtual 276, 3) := by decide +kernel
theorem dX10_acts_42 : decode cX10_acts 42 = .ok (.iload 4, 2) := by decide +kernel
theorem dX10_acts_44 : decode cX10_acts 44 = .ok (.iadd, 1) := by decide +kernel
theorem dX10_acts_45 : decode cX10_acts 45 = .ok (.invokevirtual 284, 3) := by decide +kernel
theorem dX10_acts_48 : decode cX10_acts 48 = .ok (.return_, 1) := by decide +kernel
theorem dX10_act_0 : decode cX10_act 0 = .ok (.aload_n 0, 1) := by decide +kernel
theorem dX10_act_1 : decode cX10_act 1 = .ok (.iload_n 1, 1) := by decide +kernel
theorem dX10_act_2 : decode cX10_act 2 = .ok (.iload_n 2, 1) := by decide +kernel
theorem dX10_act_3 : decode cX10_act 3 = .ok (.iload_n 3, 1) := by decide +kernel
theorem dX10_act_4 : decode cX10_act 4 = .ok (.iload 4, 2) := by decide +kernel
theorem dX10_act_6 : decode cX10_act 6 = .ok (.iload 5, 2) := by decide +kernel
theorem dX10_act_8 : decode cX10_act 8 = .ok (.invokevirtual 343, 3) := by decide +kernel
theorem dX10_act_11 : decode cX10_act 11 = .ok (.istore 6, 2) := by decide +kernel
theorem dX10_act_13 : decode cX10_act 13 = .ok (.iload 6, 2) := by decide +kernel
theorem dX10_act_15 : decode cX10_act 15 = .ok (.ifCond .ge 6, 3) := by decide +kernel
theorem dX10_act_18 : decode cX10_act 18 = .ok (.iload 6, 2) := by decide +kernel
theorem dX10_act_20 : decode cX10_act 20 = .ok (.ireturn, 1) := by decide +kernel
theorem dX10_act_21 : decode cX10_act 21 = .ok (.aload_n 0, 1) := by decide +kernel
theorem dX10_act_22 : decode cX10_act 22 = .ok (.iload_n 1, 1) := by decide +kernel
theorem dX10_act_23 : decode cX10_act 23 = .ok (.iload_n 2, 1) := by decide +kernel
theorem dX10_act_24 : decode cX10_act 24 = .ok (.iload_n 3, 1) := by decide +kernel
theorem dX10_act_25 : decode cX10_act 25 = .ok (.iload 4, 2) := by decide +kernel
theorem dX10_act_27 : decode cX10_act 27 = .ok (.iload 5, 2) := by decide +kernel
theorem dX10_act_29 : decode cX10_act 29 = .ok (.invokevirtual 347, 3) := by decide +kernel
theorem dX10_act_32 : decode cX10_act 32 = .ok (.aload_n 0, 1) := by decide +kernel
theorem dX10_act_33 : decode cX10_act 33 = .ok (.iload_n 1, 1) := by decide +kernel
theorem dX10_act_34 : decode cX10_act 34 = .ok (.iconst 4, 1) := by decide +kernel
theorem dX10_act_35 : decode cX10_act 35 = .ok (.aload_n 0, 1) := by decide +kernel
theorem dX10_act_36 : decode cX10_act 36 = .ok (.iload_n 1, 1) := by decide +kernel
theorem dX10_act_37 : decode cX10_act 37 = .ok (.iconst 4, 1) := by decide +kernel
theorem dX10_act_38 : decode cX10_act 38 = .ok (.invokevirtual 276, 3) := by decide +kernel
theorem dX10_act_41 : decode cX10_act 41 = .ok (.aload_n 0, 1) := by decide +kernel
theorem dX10_act_42 : decode cX10_act 42 = .ok (.iload_n 1, 1) := by decide +kernel
theorem dX10_act_43 : decode cX10_act 43 = .ok (.iload_n 3, 1) := by decide +kernel
theorem dX10_act_44 : decode cX10_act 44 = .ok (.invokevirtual 351, 3) := by decide +kernel
theorem dX10_act_47 : decode cX10_act 47 = .ok (.iadd, 1) := by decide +kernel
theorem dX10_act_48 : decode cX10_act 48 = .ok (.iload_n 2, 1) := by decide +kernel
theorem dX10_act_49 : decode cX10_act 49 = .ok (.aload_n 0, 1) := by decide +kernel
theorem dX10_act_50 : decode cX10_act 50 = .ok (.iload_n 1, 1) := by decide +kernel
theorem dX10_act_51 : decode cX10_act 51 = .ok (.bipush 6, 2) := by decide +kernel
theorem dX10_act_53 : decode cX10_act 53 = .ok (.invokevirtual 276, 3) := by decide +kernel
theorem dX10_act_56 : decode cX10_act 56 = .ok (.imul, 1) := by decide +kernel
theorem dX10_act_57 : decode cX10_act 57 = .ok (.isub, 1) := by decide +kernel
theorem dX10_act_58 : decode cX10_act 58 = .ok (.invokevirtual 272, 3) := by decide +kernel
theorem dX10_act_61 : decode cX10_act 61 = .ok (.aload_n 0, 1) := by decide +kernel
theorem dX10_act_62 : decode cX10_act 62 = .ok (.iload_n 1, 1) := by decide +kernel
theorem dX10_act_63 : decode cX10_act 63 = .ok (.iconst 0, 1) := by decide +kernel
theorem dX10_act_64 : decode cX10_act 64 = .ok (.invokevirtual 276, 3) := by decide +kernel
theorem dX10_act_67 : decode cX10_act 67 = .ok (.ireturn, 1) := by decide +kernel
theorem dX10_thinks_0 : decode cX10_thinks 0 = .ok (.iconst 0, 1) := by decide +kernel
theorem dX10_thinks_1 : decode cX10_thinks 1 = .ok (.istore_n 1, 1) := by decide +kernel
theorem dX10_thinks_2 : decode cX10_thinks 2 = .ok (.iload_n 1, 1) := by decide +kernel
theorem dX10_thinks_3 : decode cX10_thinks 3 = .ok (.sipush 178, 3) := by decide +kernel
theorem dX10_thinks_6 : decode cX10_thinks 6 = .ok (.if_icmp .ge 30, 3) := by decide +kernel
theorem dX10_thinks_9 : decode cX10_thinks 9 = .ok (.aload_n 0, 1) := by decide +kernel
theorem dX10_thinks_10 : decode cX10_thinks 10 = .ok (.getfield 41, 3) := by decide +kernel
theorem dX10_thinks_13 : decode cX10_thinks 13 = .ok (.sipush 178, 3) := by decide +kernel
theorem dX10_thinks_16 : decode cX10_thinks 16 = .ok (.aload_n 0, 1) := by decide +kernel
theorem dX10_thinks_17 : decode cX10_thinks 17 = .ok (.getfield 354, 3) := by decide +kernel
theorem dX10_thinks_20 : decode cX10_thinks 20 = .ok (.imul, 1) := by decide +kernel
theorem dX10_thinks_21 : decode cX10_thinks 21 = .ok (.iload_n 1, 1) := by decide +kernel
theorem dX10_thinks_22 : decode cX10_thinks 22 = .ok (.iadd, 1) := by decide +kernel
theorem dX10_thinks_23 : decode cX10_thinks 23 = .ok (.aload_n 0, 1) := by decide +kernel
theorem dX10_thinks_24 : decode cX10_thinks 24 = .ok (.getfield 13, 3) := by decide +kernel
theorem dX10_thinks_27 : decode cX10_thinks 27 = .ok (.iload_n 1, 1) := by decide +kernel
theorem dX10_thinks_28 : decode cX10_thinks 28 = .ok (.iaload, 1) := by decide +kernel
theorem dX10_thinks_29 : decode cX10_thinks 29 = .ok (.iastore, 1) := by decide +kernel
theorem dX10_thinks_30 : decode cX10_thinks 30 = .ok (.iinc 1 1, 3) := by decide +kernel
theorem dX10_thinks_33 : decode cX10_thinks 33 = .ok (.goto (-31), 3) := by decide +kernel
theorem dX10_thinks_36 : decode cX10_thinks 36 = .ok (.aload_n 0, 1) := by decide +kernel
theorem dX10_thinks_37 : decode cX10_thinks 37 = .ok (.getfield 44, 3) := by decide +kernel
theorem dX10_thinks_40 : decode cX10_thinks 40 = .ok (.aload_n 0, 1) := by decide +kernel
theorem dX10_thinks_41 : decode cX10_thinks 41 = .ok (.getfield 354, 3) := by decide +kernel
theorem dX10_thinks_44 : decode cX10_thinks 44 = .ok (.aload_n 0, 1) := by decide +kernel
theorem dX10_thinks_45 : decode cX10_thinks 45 = .ok (.getfield 102, 3) := by decide +kernel
theorem dX10_thinks_48 : decode cX10_thinks 48 = .ok (.lastore, 1) := by decide +kernel
theorem dX10_thinks_49 : decode cX10_thinks 49 = .ok (.aload_n 0, 1) := by decide +kernel
theorem dX10_thinks_50 : decode cX10_thinks 50 = .ok (.dup, 1) := by decide +kernel
theorem dX10_thinks_51 : decode cX10_thinks 51 = .ok (.getfield 354, 3) := by decide +kernel
theorem dX10_thinks_54 : decode cX10_thinks 54 = .ok (.iconst 1, 1) := by decide +kernel
theorem dX10_thinks_55 : decode cX10_thinks 55 = .ok (.iadd, 1) := by decide +kernel
theorem dX10_thinks_56 : decode cX10_thinks 56 = .ok (.putfield 354, 3) := by decide +kernel
theorem dX10_thinks_59 : decode cX10_thinks 59 = .ok (.return_, 1) := by decide +kernel
theorem dX10_wakes_0 : decode cX10_wakes 0 = .ok (.aload_n 0, 1) := by decide +kernel
theorem dX10_wakes_1 : decode cX10_wakes 1 = .ok (.dup, 1) := by decide +kernel
theorem dX10_wakes_2 : decode cX10_wakes 2 = .ok (.getfield 354, 3) := by decide +kernel
theorem dX10_wakes_5 : decode cX10_wakes 5 = .ok (.iconst 1, 1) := by decide +kernel
theorem dX10_wakes_6 : decode cX10_wakes 6 = .ok (.isub, 1) := by decide +kernel
theorem dX10_wakes_7 : decode cX10_wakes 7 = .ok (.putfield 354, 3) := by decide +kernel
theorem dX10_wakes_10 : decode cX10_wakes 10 = .ok (.iconst 0, 1) := by decide +kernel
theorem dX10_wakes_11 : decode cX10_wakes 11 = .ok (.istore_n 1, 1) := by decide +kernel
theorem dX10_wakes_12 : decode cX10_wakes 12 = .ok (.iload_n 1, 1) := by decide +kernel
theorem dX10_wakes_13 : decode cX10_wakes 13 = .ok (.sipush 178, 3) := by decide +kernel
theorem dX10_wakes_16 : decode cX10_wakes 16 = .ok (.if_icmp .ge 30, 3) := by decide +kernel
theorem dX10_wakes_19 : decode cX10_wakes 19 = .ok (.aload_n 0, 1) := by decide +kernel
theorem dX10_wakes_20 : decode cX10_wakes 20 = .ok (.getfield 13, 3) := by decide +kernel
theorem dX10_wakes_23 : decode cX10_wakes 23 = .ok (.iload_n 1, 1) := by decide +kernel
theorem dX10_wakes_24 : decode cX10_wakes 24 = .ok (.aload_n 0, 1) := by decide +kernel
theorem dX10_wakes_25 : decode cX10_wakes 25 = .ok (.getfield 41, 3) := by decide +kernel
theorem dX10_wakes_28 : decode cX10_wakes 28 = .ok (.sipush 178, 3) := by decide +kernel
theorem dX10_wakes_31 : decode cX10_wakes 31 = .ok (.aload_n 0, 1) := by decide +kernel
theorem dX10_wakes_32 : decode cX10_wakes 32 = .ok (.getfield 354, 3) := by decide +kernel
theorem dX10_wakes_35 : decode cX10_wakes 35 = .ok (.imul, 1) := by decide +kernel
