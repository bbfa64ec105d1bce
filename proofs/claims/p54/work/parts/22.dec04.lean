theorem dX10_wakes_36 : decode cX10_wakes 36 = .ok (.iload_n 1, 1) := by decide +kernel
theorem dX10_wakes_37 : decode cX10_wakes 37 = .ok (.iadd, 1) := by decide +kernel
theorem dX10_wakes_38 : decode cX10_wakes 38 = .ok (.iaload, 1) := by decide +kernel
theorem dX10_wakes_39 : decode cX10_wakes 39 = .ok (.iastore, 1) := by decide +kernel
theorem dX10_wakes_40 : decode cX10_wakes 40 = .ok (.iinc 1 1, 3) := by decide +kernel
theorem dX10_wakes_43 : decode cX10_wakes 43 = .ok (.goto (-31), 3) := by decide +kernel
theorem dX10_wakes_46 : decode cX10_wakes 46 = .ok (.aload_n 0, 1) := by decide +kernel
theorem dX10_wakes_47 : decode cX10_wakes 47 = .ok (.aload_n 0, 1) := by decide +kernel
theorem dX10_wakes_48 : decode cX10_wakes 48 = .ok (.getfield 44, 3) := by decide +kernel
theorem dX10_wakes_51 : decode cX10_wakes 51 = .ok (.aload_n 0, 1) := by decide +kernel
theorem dX10_wakes_52 : decode cX10_wakes 52 = .ok (.getfield 354, 3) := by decide +kernel
theorem dX10_wakes_55 : decode cX10_wakes 55 = .ok (.laload, 1) := by decide +kernel
theorem dX10_wakes_56 : decode cX10_wakes 56 = .ok (.putfield 102, 3) := by decide +kernel
theorem dX10_wakes_59 : decode cX10_wakes 59 = .ok (.return_, 1) := by decide +kernel
theorem dX10_judge_0 : decode cX10_judge 0 = .ok (.iload_n 1, 1) := by decide +kernel
theorem dX10_judge_1 : decode cX10_judge 1 = .ok (.invokestatic 357, 3) := by decide +kernel
theorem dX10_judge_4 : decode cX10_judge 4 = .ok (.ifCond .ne 6, 3) := by decide +kernel
theorem dX10_judge_7 : decode cX10_judge 7 = .ok (.bipush (-2), 2) := by decide +kernel
theorem dX10_judge_9 : decode cX10_judge 9 = .ok (.ireturn, 1) := by decide +kernel
theorem dX10_judge_10 : decode cX10_judge 10 = .ok (.aload_n 0, 1) := by decide +kernel
theorem dX10_judge_11 : decode cX10_judge 11 = .ok (.getfield 80, 3) := by decide +kernel
theorem dX10_judge_14 : decode cX10_judge 14 = .ok (.iload_n 1, 1) := by decide +kernel
theorem dX10_judge_15 : decode cX10_judge 15 = .ok (.iaload, 1) := by decide +kernel
theorem dX10_judge_16 : decode cX10_judge 16 = .ok (.iconst (-1), 1) := by decide +kernel
theorem dX10_judge_17 : decode cX10_judge 17 = .ok (.if_icmp .ne 6, 3) := by decide +kernel
theorem dX10_judge_20 : decode cX10_judge 20 = .ok (.bipush (-6), 2) := by decide +kernel
theorem dX10_judge_22 : decode cX10_judge 22 = .ok (.ireturn, 1) := by decide +kernel
theorem dX10_judge_23 : decode cX10_judge 23 = .ok (.aload_n 0, 1) := by decide +kernel
theorem dX10_judge_24 : decode cX10_judge 24 = .ok (.invokevirtual 360, 3) := by decide +kernel
theorem dX10_judge_27 : decode cX10_judge 27 = .ok (.iconst 0, 1) := by decide +kernel
theorem dX10_judge_28 : decode cX10_judge 28 = .ok (.istore_n 2, 1) := by decide +kernel
theorem dX10_judge_29 : decode cX10_judge 29 = .ok (.iconst 1, 1) := by decide +kernel
theorem dX10_judge_30 : decode cX10_judge 30 = .ok (.istore_n 3, 1) := by decide +kernel
theorem dX10_judge_31 : decode cX10_judge 31 = .ok (.iload_n 3, 1) := by decide +kernel
theorem dX10_judge_32 : decode cX10_judge 32 = .ok (.ifCond .eq 202, 3) := by decide +kernel
theorem dX10_judge_35 : decode cX10_judge 35 = .ok (.iconst 5, 1) := by decide +kernel
theorem dX10_judge_36 : decode cX10_judge 36 = .ok (.iload_n 2, 1) := by decide +kernel
theorem dX10_judge_37 : decode cX10_judge 37 = .ok (.imul, 1) := by decide +kernel
theorem dX10_judge_38 : decode cX10_judge 38 = .ok (.iconst 5, 1) := by decide +kernel
theorem dX10_judge_39 : decode cX10_judge 39 = .ok (.iadd, 1) := by decide +kernel
theorem dX10_judge_40 : decode cX10_judge 40 = .ok (.aload_n 0, 1) := by decide +kernel
theorem dX10_judge_41 : decode cX10_judge 41 = .ok (.getfield 80, 3) := by decide +kernel
theorem dX10_judge_44 : decode cX10_judge 44 = .ok (.iload_n 1, 1) := by decide +kernel
theorem dX10_judge_45 : decode cX10_judge 45 = .ok (.iaload, 1) := by decide +kernel
theorem dX10_judge_46 : decode cX10_judge 46 = .ok (.if_icmp .gt 188, 3) := by decide +kernel
theorem dX10_judge_49 : decode cX10_judge 49 = .ok (.iconst 0, 1) := by decide +kernel
theorem dX10_judge_50 : decode cX10_judge 50 = .ok (.istore 4, 2) := by decide +kernel
theorem dX10_judge_52 : decode cX10_judge 52 = .ok (.iload 4, 2) := by decide +kernel
theorem dX10_judge_54 : decode cX10_judge 54 = .ok (.iconst 5, 1) := by decide +kernel
theorem dX10_judge_55 : decode cX10_judge 55 = .ok (.if_icmp .ge 39, 3) := by decide +kernel
theorem dX10_judge_58 : decode cX10_judge 58 = .ok (.iload_n 3, 1) := by decide +kernel
theorem dX10_judge_59 : decode cX10_judge 59 = .ok (.ifCond .eq 35, 3) := by decide +kernel
theorem dX10_judge_62 : decode cX10_judge 62 = .ok (.aload_n 0, 1) := by decide +kernel
theorem dX10_judge_63 : decode cX10_judge 63 = .ok (.getfield 86, 3) := by decide +kernel
theorem dX10_judge_66 : decode cX10_judge 66 = .ok (.bipush 60, 2) := by decide +kernel
theorem dX10_judge_68 : decode cX10_judge 68 = .ok (.iload_n 1, 1) := by decide +kernel
theorem dX10_judge_69 : decode cX10_judge 69 = .ok (.imul, 1) := by decide +kernel
theorem dX10_judge_70 : decode cX10_judge 70 = .ok (.iconst 5, 1) := by decide +kernel
theorem dX10_judge_71 : decode cX10_judge 71 = .ok (.iload_n 2, 1) := by decide +kernel
theorem dX10_judge_72 : decode cX10_judge 72 = .ok (.imul, 1) := by decide +kernel
theorem dX10_judge_73 : decode cX10_judge 73 = .ok (.iadd, 1) := by decide +kernel
theorem dX10_judge_74 : decode cX10_judge 74 = .ok (.iload 4, 2) := by decide +kernel
theorem dX10_judge_76 : decode cX10_judge 76 = .ok (.iadd, 1) := by decide +kernel
theorem dX10_judge_77 : decode cX10_judge 77 = .ok (.laload, 1) := by decide +kernel
theorem dX10_judge_78 : decode cX10_judge 78 = .ok (.ldc2_w 363, 3) := by decide +kernel
theorem dX10_judge_81 : decode cX10_judge 81 = .ok (.ldc2_w 365, 3) := by decide +kernel
theorem dX10_judge_84 : decode cX10_judge 84 = .ok (.invokestatic 98, 3) := by decide +kernel
theorem dX10_judge_87 : decode cX10_judge 87 = .ok (.istore_n 3, 1) := by decide +kernel
theorem dX10_judge_88 : decode cX10_judge 88 = .ok (.iinc 4 1, 3) := by decide +kernel
theorem dX10_judge_91 : decode cX10_judge 91 = .ok (.goto (-39), 3) := by decide +kernel
theorem dX10_judge_94 : decode cX10_judge 94 = .ok (.bipush 60, 2) := by decide +kernel
theorem dX10_judge_96 : decode cX10_judge 96 = .ok (.iload_n 1, 1) := by decide +kernel
theorem dX10_judge_97 : decode cX10_judge 97 = .ok (.imul, 1) := by decide +kernel
theorem dX10_judge_98 : decode cX10_judge 98 = .ok (.iconst 5, 1) := by decide +kernel
theorem dX10_judge_99 : decode cX10_judge 99 = .ok (.iload_n 2, 1) := by decide +kernel
theorem dX10_judge_100 : decode cX10_judge 100 = .ok (.imul, 1) := by decide +kernel
theorem dX10_judge_101 : decode cX10_judge 101 = .ok (.iadd, 1) := by decide +kernel
theorem dX10_judge_102 : decode cX10_judge 102 = .ok (.istore 4, 2) := by decide +kernel
theorem dX10_judge_104 : decode cX10_judge 104 = .ok (.iload_n 3, 1) := by decide +kernel
theorem dX10_judge_105 : decode cX10_judge 105 = .ok (.ifCond .eq 62, 3) := by decide +kernel
theorem dX10_judge_108 : decode cX10_judge 108 = .ok (.aload_n 0, 1) := by decide +kernel
theorem dX10_judge_109 : decode cX10_judge 109 = .ok (.aload_n 0, 1) := by decide +kernel
theorem dX10_judge_110 : decode cX10_judge 110 = .ok (.getfield 86, 3) := by decide +kernel
theorem dX10_judge_113 : decode cX10_judge 113 = .ok (.iload 4, 2) := by decide +kernel
theorem dX10_judge_115 : decode cX10_judge 115 = .ok (.laload, 1) := by decide +kernel
theorem dX10_judge_116 : decode cX10_judge 116 = .ok (.l2i, 1) := by decide +kernel
theorem dX10_judge_117 : decode cX10_judge 117 = .ok (.aload_n 0, 1) := by decide +kernel
theorem dX10_judge_118 : decode cX10_judge 118 = .ok (.getfield 86, 3) := by decide +kernel
theorem dX10_judge_121 : decode cX10_judge 121 = .ok (.iload 4, 2) := by decide +kernel
theorem dX10_judge_123 : decode cX10_judge 123 = .ok (.iconst 1, 1) := by decide +kernel
theorem dX10_judge_124 : decode cX10_judge 124 = .ok (.iadd, 1) := by decide +kernel
theorem dX10_judge_125 : decode cX10_judge 125 = .ok (.laload, 1) := by decide +kernel
theorem dX10_judge_126 : decode cX10_judge 126 = .ok (.l2i, 1) := by decide +kernel
theorem dX10_judge_127 : decode cX10_judge 127 = .ok (.aload_n 0, 1) := by decide +kernel
theorem dX10_judge_128 : decode cX10_judge 128 = .ok (.getfield 86, 3) := by decide +kernel
theorem dX10_judge_131 : decode cX10_judge 131 = .ok (.iload 4, 2) := by decide +kernel
theorem dX10_judge_133 : decode cX10_judge 133 = .ok (.iconst 2, 1) := by decide +kernel
theorem dX10_judge_134 : decode cX10_judge 134 = .ok (.iadd, 1) := by decide +kernel
theorem dX10_judge_135 : decode cX10_judge 135 = .ok (.laload, 1) := by decide +kernel
theorem dX10_judge_136 : decode cX10_judge 136 = .ok (.l2i, 1) := by decide +kernel
theorem dX10_judge_137 : decode cX10_judge 137 = .ok (.aload_n 0, 1) := by decide +kernel
theorem dX10_judge_138 : decode cX10_judge 138 = .ok (.getfield 86, 3) := by decide +kernel
theorem dX10_judge_141 : decode cX10_judge 141 = .ok (.iload 4, 2) := by decide +kernel
theorem dX10_judge_143 : decode cX10_judge 143 = .ok (.iconst 3, 1) := by decide +kernel
theorem dX10_judge_144 : decode cX10_judge 144 = .ok (.iadd, 1) := by decide +kernel
theorem dX10_judge_145 : decode cX10_judge 145 = .ok (.laload, 1) := by decide +kernel
theorem dX10_judge_146 : decode cX10_judge 146 = .ok (.l2i, 1) := by decide +kernel
theorem dX10_judge_147 : decode cX10_judge 147 = .ok (.aload_n 0, 1) := by decide +kernel
theorem dX10_judge_148 : decode cX10_judge 148 = .ok (.getfield 86, 3) := by decide +kernel
theorem dX10_judge_151 : decode cX10_judge 151 = .ok (.iload 4, 2) := by decide +kernel
theorem dX10_judge_153 : decode cX10_judge 153 = .ok (.iconst 4, 1) := by decide +kernel
theorem dX10_judge_154 : decode cX10_judge 154 = .ok (.iadd, 1) := by decide +kernel
theorem dX10_judge_155 : decode cX10_judge 155 = .ok (.laload, 1) := by decide +kernel
theorem dX10_judge_156 : decode cX10_judge 156 = .ok (.l2i, 1) := by decide +kernel
theorem dX10_judge_157 : decode cX10_judge 157 = .ok (.invokevirtual 343, 3) := by decide +kernel
theorem dX10_judge_160 : decode cX10_judge 160 = .ok (.ifCond .ne 7, 3) := by decide +kernel
theorem dX10_judge_163 : decode cX10_judge 163 = .ok (.iconst 1, 1) := by decide +kernel
theorem dX10_judge_164 : decode cX10_judge 164 = .ok (.goto 4, 3) := by decide +kernel
theorem dX10_judge_167 : decode cX10_judge 167 = .ok (.iconst 0, 1) := by decide +kernel
theorem dX10_judge_168 : decode cX10_judge 168 = .ok (.istore_n 3, 1) := by decide +kernel
theorem dX10_judge_169 : decode cX10_judge 169 = .ok (.iload_n 3, 1) := by decide +kernel
theorem dX10_judge_170 : decode cX10_judge 170 = .ok (.ifCond .ne 6, 3) := by decide +kernel
theorem dX10_judge_173 : decode cX10_judge 173 = .ok (.goto (-142), 3) := by decide +kernel
theorem dX10_judge_176 : decode cX10_judge 176 = .ok (.aload_n 0, 1) := by decide +kernel
theorem dX10_judge_177 : decode cX10_judge 177 = .ok (.aload_n 0, 1) := by decide +kernel
theorem dX10_judge_178 : decode cX10_judge 178 = .ok (.getfield 86, 3) := by decide +kernel
theorem dX10_judge_181 : decode cX10_judge 181 = .ok (.iload 4, 2) := by decide +kernel
theorem dX10_judge_183 : decode cX10_judge 183 = .ok (.laload, 1) := by decide +kernel
theorem dX10_judge_184 : decode cX10_judge 184 = .ok (.l2i, 1) := by decide +kernel
theorem dX10_judge_185 : decode cX10_judge 185 = .ok (.aload_n 0, 1) := by decide +kernel
theorem dX10_judge_186 : decode cX10_judge 186 = .ok (.getfield 86, 3) := by decide +kernel
theorem dX10_judge_189 : decode cX10_judge 189 = .ok (.iload 4, 2) := by decide +kernel
theorem dX10_judge_191 : decode cX10_judge 191 = .ok (.iconst 1, 1) := by decide +kernel
theorem dX10_judge_192 : decode cX10_judge 192 = .ok (.iadd, 1) := by decide +kernel
theorem dX10_judge_193 : decode cX10_judge 193 = .ok (.laload, 1) := by decide +kernel
theorem dX10_judge_194 : decode cX10_judge 194 = .ok (.l2i, 1) := by decide +kernel
theorem dX10_judge_195 : decode cX10_judge 195 = .ok (.aload_n 0, 1) := by decide +kernel
theorem dX10_judge_196 : decode cX10_judge 196 = .ok (.getfield 86, 3) := by decide +kernel
theorem dX10_judge_199 : decode cX10_judge 199 = .ok (.iload 4, 2) := by decide +kernel
theorem dX10_judge_201 : decode cX10_judge 201 = .ok (.iconst 2, 1) := by decide +kernel
theorem dX10_judge_202 : decode cX10_judge 202 = .ok (.iadd, 1) := by decide +kernel
theorem dX10_judge_203 : decode cX10_judge 203 = .ok (.laload, 1) := by decide +kernel
theorem dX10_judge_204 : decode cX10_judge 204 = .ok (.l2i, 1) := by decide +kernel
theorem dX10_judge_205 : decode cX10_judge 205 = .ok (.aload_n 0, 1) := by decide +kernel
theorem dX10_judge_206 : decode cX10_judge 206 = .ok (.getfield 86, 3) := by decide +kernel
theorem dX10_judge_209 : decode cX10_judge 209 = .ok (.iload 4, 2) := by decide +kernel
theorem dX10_judge_211 : decode cX10_judge 211 = .ok (.iconst 3, 1) := by decide +kernel
theorem dX10_judge_212 : decode cX10_judge 212 = .ok (.iadd, 1) := by decide +kernel
theorem dX10_judge_213 : decode cX10_judge 213 = .ok (.laload, 1) := by decide +kernel
theorem dX10_judge_214 : decode cX10_judge 214 = .ok (.l2i, 1) := by decide +kernel
theorem dX10_judge_215 : decode cX10_judge 215 = .ok (.aload_n 0, 1) := by decide +kernel
theorem dX10_judge_216 : decode cX10_judge 216 = .ok (.getfield 86, 3) := by decide +kernel
theorem dX10_judge_219 : decode cX10_judge 219 = .ok (.iload 4, 2) := by decide +kernel
theorem dX10_judge_221 : decode cX10_judge 221 = .ok (.iconst 4, 1) := by decide +kernel
theorem dX10_judge_222 : decode cX10_judge 222 = .ok (.iadd, 1) := by decide +kernel
theorem dX10_judge_223 : decode cX10_judge 223 = .ok (.laload, 1) := by decide +kernel
theorem dX10_judge_224 : decode cX10_judge 224 = .ok (.l2i, 1) := by decide +kernel
theorem dX10_judge_225 : decode cX10_judge 225 = .ok (.invokevirtual 347, 3) := by decide +kernel
theorem dX10_judge_228 : decode cX10_judge 228 = .ok (.iinc 2 1, 3) := by decide +kernel
theorem dX10_judge_231 : decode cX10_judge 231 = .ok (.goto (-200), 3) := by decide +kernel
theorem dX10_judge_234 : decode cX10_judge 234 = .ok (.aload_n 0, 1) := by decide +kernel
theorem dX10_judge_235 : decode cX10_judge 235 = .ok (.invokevirtual 367, 3) := by decide +kernel
theorem dX10_judge_238 : decode cX10_judge 238 = .ok (.iload_n 2, 1) := by decide +kernel
theorem dX10_judge_239 : decode cX10_judge 239 = .ok (.ireturn, 1) := by decide +kernel
theorem dX10_guesses_0 : decode cX10_guesses 0 = .ok (.iconst 0, 1) := by decide +kernel
theorem dX10_guesses_1 : decode cX10_guesses 1 = .ok (.istore_n 2, 1) := by decide +kernel
theorem dX10_guesses_2 : decode cX10_guesses 2 = .ok (.iload_n 2, 1) := by decide +kernel
theorem dX10_guesses_3 : decode cX10_guesses 3 = .ok (.aload_n 0, 1) := by decide +kernel
theorem dX10_guesses_4 : decode cX10_guesses 4 = .ok (.invokevirtual 295, 3) := by decide +kernel
theorem dX10_guesses_7 : decode cX10_guesses 7 = .ok (.if_icmp .ge 30, 3) := by decide +kernel
theorem dX10_guesses_10 : decode cX10_guesses 10 = .ok (.aload_n 0, 1) := by decide +kernel
theorem dX10_guesses_11 : decode cX10_guesses 11 = .ok (.getfield 47, 3) := by decide +kernel
theorem dX10_guesses_14 : decode cX10_guesses 14 = .ok (.iload_n 2, 1) := by decide +kernel
theorem dX10_guesses_15 : decode cX10_guesses 15 = .ok (.iload_n 2, 1) := by decide +kernel
theorem dX10_guesses_16 : decode cX10_guesses 16 = .ok (.iload_n 1, 1) := by decide +kernel
theorem dX10_guesses_17 : decode cX10_guesses 17 = .ok (.if_icmp .ne 7, 3) := by decide +kernel
theorem dX10_guesses_20 : decode cX10_guesses 20 = .ok (.iconst 0, 1) := by decide +kernel
theorem dX10_guesses_21 : decode cX10_guesses 21 = .ok (.goto 9, 3) := by decide +kernel
theorem dX10_guesses_24 : decode cX10_guesses 24 = .ok (.aload_n 0, 1) := by decide +kernel
theorem dX10_guesses_25 : decode cX10_guesses 25 = .ok (.iload_n 1, 1) := by decide +kernel
theorem dX10_guesses_26 : decode cX10_guesses 26 = .ok (.iload_n 2, 1) := by decide +kernel
theorem dX10_guesses_27 : decode cX10_guesses 27 = .ok (.invokevirtual 293, 3) := by decide +kernel
theorem dX10_guesses_30 : decode cX10_guesses 30 = .ok (.iastore, 1) := by decide +kernel
theorem dX10_guesses_31 : decode cX10_guesses 31 = .ok (.iinc 2 1, 3) := by decide +kernel
theorem dX10_guesses_34 : decode cX10_guesses 34 = .ok (.goto (-32), 3) := by decide +kernel
theorem dX10_guesses_37 : decode cX10_guesses 37 = .ok (.return_, 1) := by decide +kernel
theorem dX10_guessesTruly_0 : decode cX10_guessesTruly 0 = .ok (.iconst 0, 1) := by decide +kernel
theorem dX10_guessesTruly_1 : decode cX10_guessesTruly 1 = .ok (.istore_n 2, 1) := by decide +kernel
theorem dX10_guessesTruly_2 : decode cX10_guessesTruly 2 = .ok (.iload_n 2, 1) := by decide +kernel
theorem dX10_guessesTruly_3 : decode cX10_guessesTruly 3 = .ok (.aload_n 0, 1) := by decide +kernel
theorem dX10_guessesTruly_4 : decode cX10_guessesTruly 4 = .ok (.invokevirtual 295, 3) := by decide +kernel
theorem dX10_guessesTruly_7 : decode cX10_guessesTruly 7 = .ok (.if_icmp .ge 29, 3) := by decide +kernel
theorem dX10_guessesTruly_10 : decode cX10_guessesTruly 10 = .ok (.aload_n 0, 1) := by decide +kernel
theorem dX10_guessesTruly_11 : decode cX10_guessesTruly 11 = .ok (.getfield 47, 3) := by decide +kernel
theorem dX10_guessesTruly_14 : decode cX10_guessesTruly 14 = .ok (.iload_n 2, 1) := by decide +kernel
theorem dX10_guessesTruly_15 : decode cX10_guessesTruly 15 = .ok (.iload_n 2, 1) := by decide +kernel
theorem dX10_guessesTruly_16 : decode cX10_guessesTruly 16 = .ok (.iload_n 1, 1) := by decide +kernel
theorem dX10_guessesTruly_17 : decode cX10_guessesTruly 17 = .ok (.if_icmp .ne 7, 3) := by decide +kernel
theorem dX10_guessesTruly_20 : decode cX10_guessesTruly 20 = .ok (.iconst 0, 1) := by decide +kernel
theorem dX10_guessesTruly_21 : decode cX10_guessesTruly 21 = .ok (.goto 8, 3) := by decide +kernel
theorem dX10_guessesTruly_24 : decode cX10_guessesTruly 24 = .ok (.aload_n 0, 1) := by decide +kernel
theorem dX10_guessesTruly_25 : decode cX10_guessesTruly 25 = .ok (.iload_n 2, 1) := by decide +kernel
theorem dX10_guessesTruly_26 : decode cX10_guessesTruly 26 = .ok (.invokevirtual 279, 3) := by decide +kernel
theorem dX10_guessesTruly_29 : decode cX10_guessesTruly 29 = .ok (.iastore, 1) := by decide +kernel
theorem dX10_guessesTruly_30 : decode cX10_guessesTruly 30 = .ok (.iinc 2 1, 3) := by decide +kernel
theorem dX10_guessesTruly_33 : decode cX10_guessesTruly 33 = .ok (.goto (-31), 3) := by decide +kernel
theorem dX10_guessesTruly_36 : decode cX10_guessesTruly 36 = .ok (.return_, 1) := by decide +kernel
theorem dX10_shownThen_0 : decode cX10_shownThen 0 = .ok (.iload_n 2, 1) := by decide +kernel
theorem dX10_shownThen_1 : decode cX10_shownThen 1 = .ok (.iload_n 1, 1) := by decide +kernel
theorem dX10_shownThen_2 : decode cX10_shownThen 2 = .ok (.if_icmp .ne 17, 3) := by decide +kernel
theorem dX10_shownThen_5 : decode cX10_shownThen 5 = .ok (.aload_n 0, 1) := by decide +kernel
theorem dX10_shownThen_6 : decode cX10_shownThen 6 = .ok (.getfield 50, 3) := by decide +kernel
theorem dX10_shownThen_9 : decode cX10_shownThen 9 = .ok (.iload_n 2, 1) := by decide +kernel
theorem dX10_shownThen_10 : decode cX10_shownThen 10 = .ok (.iaload, 1) := by decide +kernel
theorem dX10_shownThen_11 : decode cX10_shownThen 11 = .ok (.aload_n 0, 1) := by decide +kernel
theorem dX10_shownThen_12 : decode cX10_shownThen 12 = .ok (.getfield 370, 3) := by decide +kernel
theorem dX10_shownThen_15 : decode cX10_shownThen 15 = .ok (.isub, 1) := by decide +kernel
theorem dX10_shownThen_16 : decode cX10_shownThen 16 = .ok (.goto 9, 3) := by decide +kernel
theorem dX10_shownThen_19 : decode cX10_shownThen 19 = .ok (.aload_n 0, 1) := by decide +kernel
theorem dX10_shownThen_20 : decode cX10_shownThen 20 = .ok (.getfield 50, 3) := by decide +kernel
theorem dX10_shownThen_23 : decode cX10_shownThen 23 = .ok (.iload_n 2, 1) := by decide +kernel
theorem dX10_shownThen_24 : decode cX10_shownThen 24 = .ok (.iaload, 1) := by decide +kernel
theorem dX10_shownThen_25 : decode cX10_shownThen 25 = .ok (.ireturn, 1) := by decide +kernel
theorem dX10_holdsThen_0 : decode cX10_holdsThen 0 = .ok (.aload_n 0, 1) := by decide +kernel
theorem dX10_holdsThen_1 : decode cX10_holdsThen 1 = .ok (.getfield 50, 3) := by decide +kernel
theorem dX10_holdsThen_4 : decode cX10_holdsThen 4 = .ok (.iload_n 2, 1) := by decide +kernel
theorem dX10_holdsThen_5 : decode cX10_holdsThen 5 = .ok (.aload_n 0, 1) := by decide +kernel
theorem dX10_holdsThen_6 : decode cX10_holdsThen 6 = .ok (.getfield 13, 3) := by decide +kernel
theorem dX10_holdsThen_9 : decode cX10_holdsThen 9 = .ok (.iconst 1, 1) := by decide +kernel
theorem dX10_holdsThen_10 : decode cX10_holdsThen 10 = .ok (.iaload, 1) := by decide +kernel
theorem dX10_holdsThen_11 : decode cX10_holdsThen 11 = .ok (.iload_n 3, 1) := by decide +kernel
theorem dX10_holdsThen_12 : decode cX10_holdsThen 12 = .ok (.invokestatic 141, 3) := by decide +kernel
theorem dX10_holdsThen_15 : decode cX10_holdsThen 15 = .ok (.iastore, 1) := by decide +kernel
theorem dX10_holdsThen_16 : decode cX10_holdsThen 16 = .ok (.iload_n 2, 1) := by decide +kernel
theorem dX10_holdsThen_17 : decode cX10_holdsThen 17 = .ok (.iload_n 1, 1) := by decide +kernel
theorem dX10_holdsThen_18 : decode cX10_holdsThen 18 = .ok (.if_icmp .ne 20, 3) := by decide +kernel
theorem dX10_holdsThen_21 : decode cX10_holdsThen 21 = .ok (.aload_n 0, 1) := by decide +kernel
theorem dX10_holdsThen_22 : decode cX10_holdsThen 22 = .ok (.aload_n 0, 1) := by decide +kernel
theorem dX10_holdsThen_23 : decode cX10_holdsThen 23 = .ok (.getfield 370, 3) := by decide +kernel
theorem dX10_holdsThen_26 : decode cX10_holdsThen 26 = .ok (.aload_n 0, 1) := by decide +kernel
theorem dX10_holdsThen_27 : decode cX10_holdsThen 27 = .ok (.getfield 50, 3) := by decide +kernel
theorem dX10_holdsThen_30 : decode cX10_holdsThen 30 = .ok (.iload_n 2, 1) := by decide +kernel
theorem dX10_holdsThen_31 : decode cX10_holdsThen 31 = .ok (.iaload, 1) := by decide +kernel
theorem dX10_holdsThen_32 : decode cX10_holdsThen 32 = .ok (.invokestatic 141, 3) := by decide +kernel
theorem dX10_holdsThen_35 : decode cX10_holdsThen 35 = .ok (.putfield 370, 3) := by decide +kernel
theorem dX10_holdsThen_38 : decode cX10_holdsThen 38 = .ok (.return_, 1) := by decide +kernel
theorem dX10_strikesThen_0 : decode cX10_strikesThen 0 = .ok (.iconst 0, 1) := by decide +kernel
theorem dX10_strikesThen_1 : decode cX10_strikesThen 1 = .ok (.istore_n 2, 1) := by decide +kernel
theorem dX10_strikesThen_2 : decode cX10_strikesThen 2 = .ok (.iconst 0, 1) := by decide +kernel
theorem dX10_strikesThen_3 : decode cX10_strikesThen 3 = .ok (.istore_n 3, 1) := by decide +kernel
theorem dX10_strikesThen_4 : decode cX10_strikesThen 4 = .ok (.iload_n 3, 1) := by decide +kernel
theorem dX10_strikesThen_5 : decode cX10_strikesThen 5 = .ok (.aload_n 0, 1) := by decide +kernel
theorem dX10_strikesThen_6 : decode cX10_strikesThen 6 = .ok (.invokevirtual 295, 3) := by decide +kernel
theorem dX10_strikesThen_9 : decode cX10_strikesThen 9 = .ok (.if_icmp .ge 20, 3) := by decide +kernel
theorem dX10_strikesThen_12 : decode cX10_strikesThen 12 = .ok (.iload_n 2, 1) := by decide +kernel
theorem dX10_strikesThen_13 : decode cX10_strikesThen 13 = .ok (.aload_n 0, 1) := by decide +kernel
theorem dX10_strikesThen_14 : decode cX10_strikesThen 14 = .ok (.iload_n 1, 1) := by decide +kernel
theorem dX10_strikesThen_15 : decode cX10_strikesThen 15 = .ok (.iload_n 3, 1) := by decide +kernel
theorem dX10_strikesThen_16 : decode cX10_strikesThen 16 = .ok (.invokevirtual 373, 3) := by decide +kernel
theorem dX10_strikesThen_19 : decode cX10_strikesThen 19 = .ok (.invokestatic 298, 3) := by decide +kernel
theorem dX10_strikesThen_22 : decode cX10_strikesThen 22 = .ok (.istore_n 2, 1) := by decide +kernel
theorem dX10_strikesThen_23 : decode cX10_strikesThen 23 = .ok (.iinc 3 1, 3) := by decide +kernel
theorem dX10_strikesThen_26 : decode cX10_strikesThen 26 = .ok (.goto (-22), 3) := by decide +kernel
theorem dX10_strikesThen_29 : decode cX10_strikesThen 29 = .ok (.iconst 0, 1) := by decide +kernel
theorem dX10_strikesThen_30 : decode cX10_strikesThen 30 = .ok (.istore_n 3, 1) := by decide +kernel
theorem dX10_strikesThen_31 : decode cX10_strikesThen 31 = .ok (.iconst 0, 1) := by decide +kernel
theorem dX10_strikesThen_32 : decode cX10_strikesThen 32 = .ok (.istore 4, 2) := by decide +kernel
theorem dX10_strikesThen_34 : decode cX10_strikesThen 34 = .ok (.iconst 0, 1) := by decide +kernel
theorem dX10_strikesThen_35 : decode cX10_strikesThen 35 = .ok (.istore 5, 2) := by decide +kernel
theorem dX10_strikesThen_37 : decode cX10_strikesThen 37 = .ok (.iconst 0, 1) := by decide +kernel
theorem dX10_strikesThen_38 : decode cX10_strikesThen 38 = .ok (.istore 6, 2) := by decide +kernel
theorem dX10_strikesThen_40 : decode cX10_strikesThen 40 = .ok (.iload 6, 2) := by decide +kernel
theorem dX10_strikesThen_42 : decode cX10_strikesThen 42 = .ok (.aload_n 0, 1) := by decide +kernel
theorem dX10_strikesThen_43 : decode cX10_strikesThen 43 = .ok (.invokevirtual 295, 3) := by decide +kernel
theorem dX10_strikesThen_46 : decode cX10_strikesThen 46 = .ok (.if_icmp .ge 70, 3) := by decide +kernel
theorem dX10_strikesThen_49 : decode cX10_strikesThen 49 = .ok (.aload_n 0, 1) := by decide +kernel
theorem dX10_strikesThen_50 : decode cX10_strikesThen 50 = .ok (.iload_n 1, 1) := by decide +kernel
theorem dX10_strikesThen_51 : decode cX10_strikesThen 51 = .ok (.iload 6, 2) := by decide +kernel
theorem dX10_strikesThen_53 : decode cX10_strikesThen 53 = .ok (.invokevirtual 373, 3) := by decide +kernel
theorem dX10_strikesThen_56 : decode cX10_strikesThen 56 = .ok (.istore 7, 2) := by decide +kernel
theorem dX10_strikesThen_58 : decode cX10_strikesThen 58 = .ok (.iload 7, 2) := by decide +kernel
theorem dX10_strikesThen_60 : decode cX10_strikesThen 60 = .ok (.iload_n 2, 1) := by decide +kernel
theorem dX10_strikesThen_61 : decode cX10_strikesThen 61 = .ok (.if_icmp .ge 12, 3) := by decide +kernel
theorem dX10_strikesThen_64 : decode cX10_strikesThen 64 = .ok (.iload_n 3, 1) := by decide +kernel
theorem dX10_strikesThen_65 : decode cX10_strikesThen 65 = .ok (.iload 7, 2) := by decide +kernel
theorem dX10_strikesThen_67 : decode cX10_strikesThen 67 = .ok (.invokestatic 298, 3) := by decide +kernel
theorem dX10_strikesThen_70 : decode cX10_strikesThen 70 = .ok (.goto 4, 3) := by decide +kernel
theorem dX10_strikesThen_73 : decode cX10_strikesThen 73 = .ok (.iload_n 3, 1) := by decide +kernel
theorem dX10_strikesThen_74 : decode cX10_strikesThen 74 = .ok (.istore_n 3, 1) := by decide +kernel
theorem dX10_strikesThen_75 : decode cX10_strikesThen 75 = .ok (.iload 4, 2) := by decide +kernel
theorem dX10_strikesThen_77 : decode cX10_strikesThen 77 = .ok (.iload 7, 2) := by decide +kernel
theorem dX10_strikesThen_79 : decode cX10_strikesThen 79 = .ok (.iload_n 2, 1) := by decide +kernel
theorem dX10_strikesThen_80 : decode cX10_strikesThen 80 = .ok (.if_icmp .ne 10, 3) := by decide +kernel
theorem dX10_strikesThen_83 : decode cX10_strikesThen 83 = .ok (.iconst 1, 1) := by decide +kernel
theorem dX10_strikesThen_84 : decode cX10_strikesThen 84 = .ok (.iload 6, 2) := by decide +kernel
theorem dX10_strikesThen_86 : decode cX10_strikesThen 86 = .ok (.ishl, 1) := by decide +kernel
theorem dX10_strikesThen_87 : decode cX10_strikesThen 87 = .ok (.goto 4, 3) := by decide +kernel
theorem dX10_strikesThen_90 : decode cX10_strikesThen 90 = .ok (.iconst 0, 1) := by decide +kernel
theorem dX10_strikesThen_91 : decode cX10_strikesThen 91 = .ok (.ior, 1) := by decide +kernel
theorem dX10_strikesThen_92 : decode cX10_strikesThen 92 = .ok (.istore 4, 2) := by decide +kernel
theorem dX10_strikesThen_94 : decode cX10_strikesThen 94 = .ok (.iload 5, 2) := by decide +kernel
theorem dX10_strikesThen_96 : decode cX10_strikesThen 96 = .ok (.iload 7, 2) := by decide +kernel
theorem dX10_strikesThen_98 : decode cX10_strikesThen 98 = .ok (.iload_n 2, 1) := by decide +kernel
theorem dX10_strikesThen_99 : decode cX10_strikesThen 99 = .ok (.if_icmp .ne 7, 3) := by decide +kernel
theorem dX10_strikesThen_102 : decode cX10_strikesThen 102 = .ok (.iconst 1, 1) := by decide +kernel
theorem dX10_strikesThen_103 : decode cX10_strikesThen 103 = .ok (.goto 4, 3) := by decide +kernel
theorem dX10_strikesThen_106 : decode cX10_strikesThen 106 = .ok (.iconst 0, 1) := by decide +kernel
theorem dX10_strikesThen_107 : decode cX10_strikesThen 107 = .ok (.iadd, 1) := by decide +kernel
theorem dX10_strikesThen_108 : decode cX10_strikesThen 108 = .ok (.istore 5, 2) := by decide +kernel
theorem dX10_strikesThen_110 : decode cX10_strikesThen 110 = .ok (.iinc 6 1, 3) := by decide +kernel
theorem dX10_strikesThen_113 : decode cX10_strikesThen 113 = .ok (.goto (-73), 3) := by decide +kernel
theorem dX10_strikesThen_116 : decode cX10_strikesThen 116 = .ok (.iload 5, 2) := by decide +kernel
theorem dX10_strikesThen_118 : decode cX10_strikesThen 118 = .ok (.aload_n 0, 1) := by decide +kernel
theorem dX10_strikesThen_119 : decode cX10_strikesThen 119 = .ok (.getfield 13, 3) := by decide +kernel
theorem dX10_strikesThen_122 : decode cX10_strikesThen 122 = .ok (.iconst 3, 1) := by decide +kernel
theorem dX10_strikesThen_123 : decode cX10_strikesThen 123 = .ok (.iaload, 1) := by decide +kernel
theorem dX10_strikesThen_124 : decode cX10_strikesThen 124 = .ok (.if_icmp .lt 7, 3) := by decide +kernel
theorem dX10_strikesThen_127 : decode cX10_strikesThen 127 = .ok (.iconst 0, 1) := by decide +kernel
theorem dX10_strikesThen_128 : decode cX10_strikesThen 128 = .ok (.goto 17, 3) := by decide +kernel
theorem dX10_strikesThen_131 : decode cX10_strikesThen 131 = .ok (.iconst 0, 1) := by decide +kernel
theorem dX10_strikesThen_132 : decode cX10_strikesThen 132 = .ok (.iload_n 2, 1) := by decide +kernel
theorem dX10_strikesThen_133 : decode cX10_strikesThen 133 = .ok (.iload_n 3, 1) := by decide +kernel
theorem dX10_strikesThen_134 : decode cX10_strikesThen 134 = .ok (.isub, 1) := by decide +kernel
theorem dX10_strikesThen_135 : decode cX10_strikesThen 135 = .ok (.aload_n 0, 1) := by decide +kernel
theorem dX10_strikesThen_136 : decode cX10_strikesThen 136 = .ok (.getfield 13, 3) := by decide +kernel
theorem dX10_strikesThen_139 : decode cX10_strikesThen 139 = .ok (.iconst 2, 1) := by decide +kernel
theorem dX10_strikesThen_140 : decode cX10_strikesThen 140 = .ok (.iaload, 1) := by decide +kernel
theorem dX10_strikesThen_141 : decode cX10_strikesThen 141 = .ok (.isub, 1) := by decide +kernel
theorem dX10_strikesThen_142 : decode cX10_strikesThen 142 = .ok (.invokestatic 298, 3) := by decide +kernel
theorem dX10_strikesThen_145 : decode cX10_strikesThen 145 = .ok (.istore 6, 2) := by decide +kernel
theorem dX10_strikesThen_147 : decode cX10_strikesThen 147 = .ok (.aload_n 0, 1) := by decide +kernel
theorem dX10_strikesThen_148 : decode cX10_strikesThen 148 = .ok (.invokevirtual 295, 3) := by decide +kernel
theorem dX10_strikesThen_151 : decode cX10_strikesThen 151 = .ok (.iload 5, 2) := by decide +kernel
theorem dX10_strikesThen_153 : decode cX10_strikesThen 153 = .ok (.isub, 1) := by decide +kernel
theorem dX10_strikesThen_154 : decode cX10_strikesThen 154 = .ok (.istore 7, 2) := by decide +kernel
theorem dX10_strikesThen_156 : decode cX10_strikesThen 156 = .ok (.aload_n 0, 1) := by decide +kernel
theorem dX10_strikesThen_157 : decode cX10_strikesThen 157 = .ok (.getfield 13, 3) := by decide +kernel
theorem dX10_strikesThen_160 : decode cX10_strikesThen 160 = .ok (.iconst 4, 1) := by decide +kernel
theorem dX10_strikesThen_161 : decode cX10_strikesThen 161 = .ok (.iaload, 1) := by decide +kernel
theorem dX10_strikesThen_162 : decode cX10_strikesThen 162 = .ok (.iconst 1, 1) := by decide +kernel
theorem dX10_strikesThen_163 : decode cX10_strikesThen 163 = .ok (.if_icmp .ne 19, 3) := by decide +kernel
theorem dX10_strikesThen_166 : decode cX10_strikesThen 166 = .ok (.iload 7, 2) := by decide +kernel
theorem dX10_strikesThen_168 : decode cX10_strikesThen 168 = .ok (.ifCond .le 14, 3) := by decide +kernel
theorem dX10_strikesThen_171 : decode cX10_strikesThen 171 = .ok (.iload 6, 2) := by decide +kernel
theorem dX10_strikesThen_173 : decode cX10_strikesThen 173 = .ok (.iload 5, 2) := by decide +kernel
theorem dX10_strikesThen_175 : decode cX10_strikesThen 175 = .ok (.imul, 1) := by decide +kernel
theorem dX10_strikesThen_176 : decode cX10_strikesThen 176 = .ok (.iload 7, 2) := by decide +kernel
theorem dX10_strikesThen_178 : decode cX10_strikesThen 178 = .ok (.idiv, 1) := by decide +kernel
theorem dX10_strikesThen_179 : decode cX10_strikesThen 179 = .ok (.goto 4, 3) := by decide +kernel
theorem dX10_strikesThen_182 : decode cX10_strikesThen 182 = .ok (.iconst 0, 1) := by decide +kernel
theorem dX10_strikesThen_183 : decode cX10_strikesThen 183 = .ok (.istore 8, 2) := by decide +kernel
theorem dX10_strikesThen_185 : decode cX10_strikesThen 185 = .ok (.iconst 0, 1) := by decide +kernel
theorem dX10_strikesThen_186 : decode cX10_strikesThen 186 = .ok (.istore 9, 2) := by decide +kernel
theorem dX10_strikesThen_188 : decode cX10_strikesThen 188 = .ok (.iload 9, 2) := by decide +kernel
theorem dX10_strikesThen_190 : decode cX10_strikesThen 190 = .ok (.aload_n 0, 1) := by decide +kernel
theorem dX10_strikesThen_191 : decode cX10_strikesThen 191 = .ok (.invokevirtual 295, 3) := by decide +kernel
theorem dX10_strikesThen_194 : decode cX10_strikesThen 194 = .ok (.if_icmp .ge 55, 3) := by decide +kernel
theorem dX10_strikesThen_197 : decode cX10_strikesThen 197 = .ok (.iload 6, 2) := by decide +kernel
theorem dX10_strikesThen_199 : decode cX10_strikesThen 199 = .ok (.ifCond .le 50, 3) := by decide +kernel
theorem dX10_strikesThen_202 : decode cX10_strikesThen 202 = .ok (.aload_n 0, 1) := by decide +kernel
theorem dX10_strikesThen_203 : decode cX10_strikesThen 203 = .ok (.iload_n 1, 1) := by decide +kernel
theorem dX10_strikesThen_204 : decode cX10_strikesThen 204 = .ok (.iload 9, 2) := by decide +kernel
theorem dX10_strikesThen_206 : decode cX10_strikesThen 206 = .ok (.iload 4, 2) := by decide +kernel
theorem dX10_strikesThen_208 : decode cX10_strikesThen 208 = .ok (.iload 9, 2) := by decide +kernel
theorem dX10_strikesThen_210 : decode cX10_strikesThen 210 = .ok (.ishr, 1) := by decide +kernel
theorem dX10_strikesThen_211 : decode cX10_strikesThen 211 = .ok (.iconst 1, 1) := by decide +kernel
theorem dX10_strikesThen_212 : decode cX10_strikesThen 212 = .ok (.iand, 1) := by decide +kernel
theorem dX10_strikesThen_213 : decode cX10_strikesThen 213 = .ok (.iconst 1, 1) := by decide +kernel
theorem dX10_strikesThen_214 : decode cX10_strikesThen 214 = .ok (.if_icmp .ne 16, 3) := by decide +kernel
theorem dX10_strikesThen_217 : decode cX10_strikesThen 217 = .ok (.aload_n 0, 1) := by decide +kernel
theorem dX10_strikesThen_218 : decode cX10_strikesThen 218 = .ok (.getfield 50, 3) := by decide +kernel
theorem dX10_strikesThen_221 : decode cX10_strikesThen 221 = .ok (.iload 9, 2) := by decide +kernel
theorem dX10_strikesThen_223 : decode cX10_strikesThen 223 = .ok (.iaload, 1) := by decide +kernel
theorem dX10_strikesThen_224 : decode cX10_strikesThen 224 = .ok (.iload 6, 2) := by decide +kernel
theorem dX10_strikesThen_226 : decode cX10_strikesThen 226 = .ok (.isub, 1) := by decide +kernel
theorem dX10_strikesThen_227 : decode cX10_strikesThen 227 = .ok (.goto 13, 3) := by decide +kernel
theorem dX10_strikesThen_230 : decode cX10_strikesThen 230 = .ok (.aload_n 0, 1) := by decide +kernel
theorem dX10_strikesThen_231 : decode cX10_strikesThen 231 = .ok (.getfield 50, 3) := by decide +kernel
theorem dX10_strikesThen_234 : decode cX10_strikesThen 234 = .ok (.iload 9, 2) := by decide +kernel
theorem dX10_strikesThen_236 : decode cX10_strikesThen 236 = .ok (.iaload, 1) := by decide +kernel
theorem dX10_strikesThen_237 : decode cX10_strikesThen 237 = .ok (.iload 8, 2) := by decide +kernel
theorem dX10_strikesThen_239 : decode cX10_strikesThen 239 = .ok (.iadd, 1) := by decide +kernel
theorem dX10_strikesThen_240 : decode cX10_strikesThen 240 = .ok (.invokevirtual 376, 3) := by decide +kernel
theorem dX10_strikesThen_243 : decode cX10_strikesThen 243 = .ok (.iinc 9 1, 3) := by decide +kernel
theorem dX10_strikesThen_246 : decode cX10_strikesThen 246 = .ok (.goto (-58), 3) := by decide +kernel
theorem dX10_strikesThen_249 : decode cX10_strikesThen 249 = .ok (.aload_n 0, 1) := by decide +kernel
theorem dX10_strikesThen_250 : decode cX10_strikesThen 250 = .ok (.getfield 13, 3) := by decide +kernel
theorem dX10_strikesThen_253 : decode cX10_strikesThen 253 = .ok (.iconst 4, 1) := by decide +kernel
theorem dX10_strikesThen_254 : decode cX10_strikesThen 254 = .ok (.iaload, 1) := by decide +kernel
theorem dX10_strikesThen_255 : decode cX10_strikesThen 255 = .ok (.iconst 2, 1) := by decide +kernel
theorem dX10_strikesThen_256 : decode cX10_strikesThen 256 = .ok (.if_icmp .ge 23, 3) := by decide +kernel
theorem dX10_strikesThen_259 : decode cX10_strikesThen 259 = .ok (.aload_n 0, 1) := by decide +kernel
theorem dX10_strikesThen_260 : decode cX10_strikesThen 260 = .ok (.dup, 1) := by decide +kernel
theorem dX10_strikesThen_261 : decode cX10_strikesThen 261 = .ok (.getfield 379, 3) := by decide +kernel
theorem dX10_strikesThen_264 : decode cX10_strikesThen 264 = .ok (.iload 6, 2) := by decide +kernel
theorem dX10_strikesThen_266 : decode cX10_strikesThen 266 = .ok (.iload 5, 2) := by decide +kernel
theorem dX10_strikesThen_268 : decode cX10_strikesThen 268 = .ok (.imul, 1) := by decide +kernel
theorem dX10_strikesThen_269 : decode cX10_strikesThen 269 = .ok (.iload 8, 2) := by decide +kernel
theorem dX10_strikesThen_271 : decode cX10_strikesThen 271 = .ok (.iload 7, 2) := by decide +kernel
theorem dX10_strikesThen_273 : decode cX10_strikesThen 273 = .ok (.imul, 1) := by decide +kernel
theorem dX10_strikesThen_274 : decode cX10_strikesThen 274 = .ok (.isub, 1) := by decide +kernel
theorem dX10_strikesThen_275 : decode cX10_strikesThen 275 = .ok (.iadd, 1) := by decide +kernel
theorem dX10_strikesThen_276 : decode cX10_strikesThen 276 = .ok (.putfield 379, 3) := by decide +kernel
theorem dX10_strikesThen_279 : decode cX10_strikesThen 279 = .ok (.aload_n 0, 1) := by decide +kernel
theorem dX10_strikesThen_280 : decode cX10_strikesThen 280 = .ok (.getfield 13, 3) := by decide +kernel
theorem dX10_strikesThen_283 : decode cX10_strikesThen 283 = .ok (.iconst 5, 1) := by decide +kernel
theorem dX10_strikesThen_284 : decode cX10_strikesThen 284 = .ok (.iaload, 1) := by decide +kernel
theorem dX10_strikesThen_285 : decode cX10_strikesThen 285 = .ok (.iconst 1, 1) := by decide +kernel
theorem dX10_strikesThen_286 : decode cX10_strikesThen 286 = .ok (.if_icmp .ne 8, 3) := by decide +kernel
theorem dX10_strikesThen_289 : decode cX10_strikesThen 289 = .ok (.aload_n 0, 1) := by decide +kernel
theorem dX10_strikesThen_290 : decode cX10_strikesThen 290 = .ok (.iload_n 1, 1) := by decide +kernel
theorem dX10_strikesThen_291 : decode cX10_strikesThen 291 = .ok (.invokevirtual 382, 3) := by decide +kernel
theorem dX10_strikesThen_294 : decode cX10_strikesThen 294 = .ok (.return_, 1) := by decide +kernel
theorem dX10_liftsThen_0 : decode cX10_liftsThen 0 = .ok (.sipush 1000, 3) := by decide +kernel
theorem dX10_liftsThen_3 : decode cX10_liftsThen 3 = .ok (.istore_n 2, 1) := by decide +kernel
theorem dX10_liftsThen_4 : decode cX10_liftsThen 4 = .ok (.iconst 0, 1) := by decide +kernel
theorem dX10_liftsThen_5 : decode cX10_liftsThen 5 = .ok (.istore_n 3, 1) := by decide +kernel
theorem dX10_liftsThen_6 : decode cX10_liftsThen 6 = .ok (.iload_n 3, 1) := by decide +kernel
theorem dX10_liftsThen_7 : decode cX10_liftsThen 7 = .ok (.aload_n 0, 1) := by decide +kernel
theorem dX10_liftsThen_8 : decode cX10_liftsThen 8 = .ok (.invokevirtual 295, 3) := by decide +kernel
theorem dX10_liftsThen_11 : decode cX10_liftsThen 11 = .ok (.if_icmp .ge 20, 3) := by decide +kernel
theorem dX10_liftsThen_14 : decode cX10_liftsThen 14 = .ok (.iload_n 2, 1) := by decide +kernel
theorem dX10_liftsThen_15 : decode cX10_liftsThen 15 = .ok (.aload_n 0, 1) := by decide +kernel
theorem dX10_liftsThen_16 : decode cX10_liftsThen 16 = .ok (.iload_n 1, 1) := by decide +kernel
theorem dX10_liftsThen_17 : decode cX10_liftsThen 17 = .ok (.iload_n 3, 1) := by decide +kernel
theorem dX10_liftsThen_18 : decode cX10_liftsThen 18 = .ok (.invokevirtual 373, 3) := by decide +kernel
theorem dX10_liftsThen_21 : decode cX10_liftsThen 21 = .ok (.invokestatic 141, 3) := by decide +kernel
theorem dX10_liftsThen_24 : decode cX10_liftsThen 24 = .ok (.istore_n 2, 1) := by decide +kernel
theorem dX10_liftsThen_25 : decode cX10_liftsThen 25 = .ok (.iinc 3 1, 3) := by decide +kernel
theorem dX10_liftsThen_28 : decode cX10_liftsThen 28 = .ok (.goto (-22), 3) := by decide +kernel
theorem dX10_liftsThen_31 : decode cX10_liftsThen 31 = .ok (.sipush 1000, 3) := by decide +kernel
theorem dX10_liftsThen_34 : decode cX10_liftsThen 34 = .ok (.istore_n 3, 1) := by decide +kernel
theorem dX10_liftsThen_35 : decode cX10_liftsThen 35 = .ok (.iconst 0, 1) := by decide +kernel
theorem dX10_liftsThen_36 : decode cX10_liftsThen 36 = .ok (.istore 4, 2) := by decide +kernel
theorem dX10_liftsThen_38 : decode cX10_liftsThen 38 = .ok (.iconst (-1), 1) := by decide +kernel
theorem dX10_liftsThen_39 : decode cX10_liftsThen 39 = .ok (.istore 5, 2) := by decide +kernel
theorem dX10_liftsThen_41 : decode cX10_liftsThen 41 = .ok (.iconst 0, 1) := by decide +kernel
theorem dX10_liftsThen_42 : decode cX10_liftsThen 42 = .ok (.istore 6, 2) := by decide +kernel
theorem dX10_liftsThen_44 : decode cX10_liftsThen 44 = .ok (.iload 6, 2) := by decide +kernel
theorem dX10_liftsThen_46 : decode cX10_liftsThen 46 = .ok (.aload_n 0, 1) := by decide +kernel
theorem dX10_liftsThen_47 : decode cX10_liftsThen 47 = .ok (.invokevirtual 295, 3) := by decide +kernel
theorem dX10_liftsThen_50 : decode cX10_liftsThen 50 = .ok (.if_icmp .ge 66, 3) := by decide +kernel
theorem dX10_liftsThen_53 : decode cX10_liftsThen 53 = .ok (.aload_n 0, 1) := by decide +kernel
theorem dX10_liftsThen_54 : decode cX10_liftsThen 54 = .ok (.iload_n 1, 1) := by decide +kernel
theorem dX10_liftsThen_55 : decode cX10_liftsThen 55 = .ok (.iload 6, 2) := by decide +kernel
theorem dX10_liftsThen_57 : decode cX10_liftsThen 57 = .ok (.invokevirtual 373, 3) := by decide +kernel
theorem dX10_liftsThen_60 : decode cX10_liftsThen 60 = .ok (.istore 7, 2) := by decide +kernel
theorem dX10_liftsThen_62 : decode cX10_liftsThen 62 = .ok (.iload 7, 2) := by decide +kernel
theorem dX10_liftsThen_64 : decode cX10_liftsThen 64 = .ok (.iload_n 2, 1) := by decide +kernel
theorem dX10_liftsThen_65 : decode cX10_liftsThen 65 = .ok (.if_icmp .le 12, 3) := by decide +kernel
theorem dX10_liftsThen_68 : decode cX10_liftsThen 68 = .ok (.iload_n 3, 1) := by decide +kernel
theorem dX10_liftsThen_69 : decode cX10_liftsThen 69 = .ok (.iload 7, 2) := by decide +kernel
theorem dX10_liftsThen_71 : decode cX10_liftsThen 71 = .ok (.invokestatic 141, 3) := by decide +kernel
theorem dX10_liftsThen_74 : decode cX10_liftsThen 74 = .ok (.goto 4, 3) := by decide +kernel
theorem dX10_liftsThen_77 : decode cX10_liftsThen 77 = .ok (.iload_n 3, 1) := by decide +kernel
theorem dX10_liftsThen_78 : decode cX10_liftsThen 78 = .ok (.istore_n 3, 1) := by decide +kernel
theorem dX10_liftsThen_79 : decode cX10_liftsThen 79 = .ok (.iload 4, 2) := by decide +kernel
theorem dX10_liftsThen_81 : decode cX10_liftsThen 81 = .ok (.iload 7, 2) := by decide +kernel
theorem dX10_liftsThen_83 : decode cX10_liftsThen 83 = .ok (.iload_n 2, 1) := by decide +kernel
theorem dX10_liftsThen_84 : decode cX10_liftsThen 84 = .ok (.if_icmp .ne 7, 3) := by decide +kernel
theorem dX10_liftsThen_87 : decode cX10_liftsThen 87 = .ok (.iconst 1, 1) := by decide +kernel
theorem dX10_liftsThen_88 : decode cX10_liftsThen 88 = .ok (.goto 4, 3) := by decide +kernel
theorem dX10_liftsThen_91 : decode cX10_liftsThen 91 = .ok (.iconst 0, 1) := by decide +kernel
theorem dX10_liftsThen_92 : decode cX10_liftsThen 92 = .ok (.iadd, 1) := by decide +kernel
theorem dX10_liftsThen_93 : decode cX10_liftsThen 93 = .ok (.istore 4, 2) := by decide +kernel
theorem dX10_liftsThen_95 : decode cX10_liftsThen 95 = .ok (.iload 7, 2) := by decide +kernel
theorem dX10_liftsThen_97 : decode cX10_liftsThen 97 = .ok (.iload_n 2, 1) := by decide +kernel
theorem dX10_liftsThen_98 : decode cX10_liftsThen 98 = .ok (.if_icmp .ne 8, 3) := by decide +kernel
theorem dX10_liftsThen_101 : decode cX10_liftsThen 101 = .ok (.iload 6, 2) := by decide +kernel
theorem dX10_liftsThen_103 : decode cX10_liftsThen 103 = .ok (.goto 5, 3) := by decide +kernel
theorem dX10_liftsThen_106 : decode cX10_liftsThen 106 = .ok (.iload 5, 2) := by decide +kernel
theorem dX10_liftsThen_108 : decode cX10_liftsThen 108 = .ok (.istore 5, 2) := by decide +kernel
theorem dX10_liftsThen_110 : decode cX10_liftsThen 110 = .ok (.iinc 6 1, 3) := by decide +kernel
theorem dX10_liftsThen_113 : decode cX10_liftsThen 113 = .ok (.goto (-69), 3) := by decide +kernel
theorem dX10_liftsThen_116 : decode cX10_liftsThen 116 = .ok (.iload 4, 2) := by decide +kernel
theorem dX10_liftsThen_118 : decode cX10_liftsThen 118 = .ok (.iconst 1, 1) := by decide +kernel
theorem dX10_liftsThen_119 : decode cX10_liftsThen 119 = .ok (.if_icmp .ne 10, 3) := by decide +kernel
theorem dX10_liftsThen_122 : decode cX10_liftsThen 122 = .ok (.iload_n 3, 1) := by decide +kernel
theorem dX10_liftsThen_123 : decode cX10_liftsThen 123 = .ok (.sipush 1000, 3) := by decide +kernel
theorem dX10_liftsThen_126 : decode cX10_liftsThen 126 = .ok (.if_icmp .ne 4, 3) := by decide +kernel
theorem dX10_liftsThen_129 : decode cX10_liftsThen 129 = .ok (.return_, 1) := by decide +kernel
theorem dX10_liftsThen_130 : decode cX10_liftsThen 130 = .ok (.iload_n 3, 1) := by decide +kernel
theorem dX10_liftsThen_131 : decode cX10_liftsThen 131 = .ok (.iload_n 2, 1) := by decide +kernel
theorem dX10_liftsThen_132 : decode cX10_liftsThen 132 = .ok (.isub, 1) := by decide +kernel
theorem dX10_liftsThen_133 : decode cX10_liftsThen 133 = .ok (.aload_n 0, 1) := by decide +kernel
theorem dX10_liftsThen_134 : decode cX10_liftsThen 134 = .ok (.getfield 379, 3) := by decide +kernel
theorem dX10_liftsThen_137 : decode cX10_liftsThen 137 = .ok (.invokestatic 141, 3) := by decide +kernel
theorem dX10_liftsThen_140 : decode cX10_liftsThen 140 = .ok (.istore 6, 2) := by decide +kernel
theorem dX10_liftsThen_142 : decode cX10_liftsThen 142 = .ok (.aload_n 0, 1) := by decide +kernel
theorem dX10_liftsThen_143 : decode cX10_liftsThen 143 = .ok (.dup, 1) := by decide +kernel
theorem dX10_liftsThen_144 : decode cX10_liftsThen 144 = .ok (.getfield 379, 3) := by decide +kernel
theorem dX10_liftsThen_147 : decode cX10_liftsThen 147 = .ok (.iload 6, 2) := by decide +kernel
theorem dX10_liftsThen_149 : decode cX10_liftsThen 149 = .ok (.isub, 1) := by decide +kernel
theorem dX10_liftsThen_150 : decode cX10_liftsThen 150 = .ok (.putfield 379, 3) := by decide +kernel
theorem dX10_liftsThen_153 : decode cX10_liftsThen 153 = .ok (.aload_n 0, 1) := by decide +kernel
theorem dX10_liftsThen_154 : decode cX10_liftsThen 154 = .ok (.iload_n 1, 1) := by decide +kernel
theorem dX10_liftsThen_155 : decode cX10_liftsThen 155 = .ok (.iload 5, 2) := by decide +kernel
theorem dX10_liftsThen_157 : decode cX10_liftsThen 157 = .ok (.aload_n 0, 1) := by decide +kernel
theorem dX10_liftsThen_158 : decode cX10_liftsThen 158 = .ok (.getfield 50, 3) := by decide +kernel
theorem dX10_liftsThen_161 : decode cX10_liftsThen 161 = .ok (.iload 5, 2) := by decide +kernel
