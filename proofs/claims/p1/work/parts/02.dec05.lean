theorem dX9_duel_93 : decode cX9_duel 93 = .ok (.iload 5, 2) := by decide +kernel
theorem dX9_duel_95 : decode cX9_duel 95 = .ok (.ifCond .eq 15, 3) := by decide +kernel
theorem dX9_duel_98 : decode cX9_duel 98 = .ok (.iload 6, 2) := by decide +kernel
theorem dX9_duel_100 : decode cX9_duel 100 = .ok (.ifCond .eq 10, 3) := by decide +kernel
theorem dX9_duel_103 : decode cX9_duel 103 = .ok (.iload_n 3, 1) := by decide +kernel
theorem dX9_duel_104 : decode cX9_duel 104 = .ok (.iconst 1, 1) := by decide +kernel
theorem dX9_duel_105 : decode cX9_duel 105 = .ok (.iload 4, 2) := by decide +kernel
theorem dX9_duel_107 : decode cX9_duel 107 = .ok (.ishl, 1) := by decide +kernel
theorem dX9_duel_108 : decode cX9_duel 108 = .ok (.ior, 1) := by decide +kernel
theorem dX9_duel_109 : decode cX9_duel 109 = .ok (.istore_n 3, 1) := by decide +kernel
theorem dX9_duel_110 : decode cX9_duel 110 = .ok (.iinc 4 1, 3) := by decide +kernel
theorem dX9_duel_113 : decode cX9_duel 113 = .ok (.goto (-90), 3) := by decide +kernel
theorem dX9_duel_116 : decode cX9_duel 116 = .ok (.iload_n 3, 1) := by decide +kernel
theorem dX9_duel_117 : decode cX9_duel 117 = .ok (.ireturn, 1) := by decide +kernel
theorem dX9_mixed_0 : decode cX9_mixed 0 = .ok (.aload_n 0, 1) := by decide +kernel
theorem dX9_mixed_1 : decode cX9_mixed 1 = .ok (.iload_n 1, 1) := by decide +kernel
theorem dX9_mixed_2 : decode cX9_mixed 2 = .ok (.iload_n 2, 1) := by decide +kernel
theorem dX9_mixed_3 : decode cX9_mixed 3 = .ok (.invokevirtual 141, 3) := by decide +kernel
theorem dX9_mixed_6 : decode cX9_mixed 6 = .ok (.ifCond .ne 6, 3) := by decide +kernel
theorem dX9_mixed_9 : decode cX9_mixed 9 = .ok (.bipush (-2), 2) := by decide +kernel
theorem dX9_mixed_11 : decode cX9_mixed 11 = .ok (.ireturn, 1) := by decide +kernel
theorem dX9_mixed_12 : decode cX9_mixed 12 = .ok (.aload_n 0, 1) := by decide +kernel
theorem dX9_mixed_13 : decode cX9_mixed 13 = .ok (.iload_n 1, 1) := by decide +kernel
theorem dX9_mixed_14 : decode cX9_mixed 14 = .ok (.iload_n 2, 1) := by decide +kernel
theorem dX9_mixed_15 : decode cX9_mixed 15 = .ok (.invokevirtual 394, 3) := by decide +kernel
theorem dX9_mixed_18 : decode cX9_mixed 18 = .ok (.aload_n 0, 1) := by decide +kernel
theorem dX9_mixed_19 : decode cX9_mixed 19 = .ok (.getfield 61, 3) := by decide +kernel
theorem dX9_mixed_22 : decode cX9_mixed 22 = .ok (.iconst 5, 1) := by decide +kernel
theorem dX9_mixed_23 : decode cX9_mixed 23 = .ok (.iaload, 1) := by decide +kernel
theorem dX9_mixed_24 : decode cX9_mixed 24 = .ok (.aload_n 0, 1) := by decide +kernel
theorem dX9_mixed_25 : decode cX9_mixed 25 = .ok (.getfield 61, 3) := by decide +kernel
theorem dX9_mixed_28 : decode cX9_mixed 28 = .ok (.iconst 1, 1) := by decide +kernel
theorem dX9_mixed_29 : decode cX9_mixed 29 = .ok (.iaload, 1) := by decide +kernel
theorem dX9_mixed_30 : decode cX9_mixed 30 = .ok (.isub, 1) := by decide +kernel
theorem dX9_mixed_31 : decode cX9_mixed 31 = .ok (.istore_n 3, 1) := by decide +kernel
theorem dX9_mixed_32 : decode cX9_mixed 32 = .ok (.iload_n 3, 1) := by decide +kernel
theorem dX9_mixed_33 : decode cX9_mixed 33 = .ok (.aload_n 0, 1) := by decide +kernel
theorem dX9_mixed_34 : decode cX9_mixed 34 = .ok (.getfield 61, 3) := by decide +kernel
theorem dX9_mixed_37 : decode cX9_mixed 37 = .ok (.bipush 7, 2) := by decide +kernel
theorem dX9_mixed_39 : decode cX9_mixed 39 = .ok (.iaload, 1) := by decide +kernel
theorem dX9_mixed_40 : decode cX9_mixed 40 = .ok (.aload_n 0, 1) := by decide +kernel
theorem dX9_mixed_41 : decode cX9_mixed 41 = .ok (.getfield 61, 3) := by decide +kernel
theorem dX9_mixed_44 : decode cX9_mixed 44 = .ok (.iconst 3, 1) := by decide +kernel
theorem dX9_mixed_45 : decode cX9_mixed 45 = .ok (.iaload, 1) := by decide +kernel
theorem dX9_mixed_46 : decode cX9_mixed 46 = .ok (.isub, 1) := by decide +kernel
theorem dX9_mixed_47 : decode cX9_mixed 47 = .ok (.isub, 1) := by decide +kernel
theorem dX9_mixed_48 : decode cX9_mixed 48 = .ok (.istore 4, 2) := by decide +kernel
theorem dX9_mixed_50 : decode cX9_mixed 50 = .ok (.iload 4, 2) := by decide +kernel
theorem dX9_mixed_52 : decode cX9_mixed 52 = .ok (.ifCond .ne 5, 3) := by decide +kernel
theorem dX9_mixed_55 : decode cX9_mixed 55 = .ok (.iconst (-1), 1) := by decide +kernel
theorem dX9_mixed_56 : decode cX9_mixed 56 = .ok (.ireturn, 1) := by decide +kernel
theorem dX9_mixed_57 : decode cX9_mixed 57 = .ok (.sipush 10000, 3) := by decide +kernel
theorem dX9_mixed_60 : decode cX9_mixed 60 = .ok (.iload_n 3, 1) := by decide +kernel
theorem dX9_mixed_61 : decode cX9_mixed 61 = .ok (.imul, 1) := by decide +kernel
theorem dX9_mixed_62 : decode cX9_mixed 62 = .ok (.iload 4, 2) := by decide +kernel
theorem dX9_mixed_64 : decode cX9_mixed 64 = .ok (.idiv, 1) := by decide +kernel
theorem dX9_mixed_65 : decode cX9_mixed 65 = .ok (.istore 5, 2) := by decide +kernel
theorem dX9_mixed_67 : decode cX9_mixed 67 = .ok (.iload 5, 2) := by decide +kernel
theorem dX9_mixed_69 : decode cX9_mixed 69 = .ok (.ifCond .lt 11, 3) := by decide +kernel
theorem dX9_mixed_72 : decode cX9_mixed 72 = .ok (.iload 5, 2) := by decide +kernel
theorem dX9_mixed_74 : decode cX9_mixed 74 = .ok (.sipush 10000, 3) := by decide +kernel
theorem dX9_mixed_77 : decode cX9_mixed 77 = .ok (.if_icmp .le 7, 3) := by decide +kernel
theorem dX9_mixed_80 : decode cX9_mixed 80 = .ok (.iconst (-1), 1) := by decide +kernel
theorem dX9_mixed_81 : decode cX9_mixed 81 = .ok (.goto 5, 3) := by decide +kernel
theorem dX9_mixed_84 : decode cX9_mixed 84 = .ok (.iload 5, 2) := by decide +kernel
theorem dX9_mixed_86 : decode cX9_mixed 86 = .ok (.ireturn, 1) := by decide +kernel
theorem dX9_seed_0 : decode cX9_seed 0 = .ok (.iload_n 1, 1) := by decide +kernel
theorem dX9_seed_1 : decode cX9_seed 1 = .ok (.ifCond .lt 10, 3) := by decide +kernel
theorem dX9_seed_4 : decode cX9_seed 4 = .ok (.iload_n 1, 1) := by decide +kernel
theorem dX9_seed_5 : decode cX9_seed 5 = .ok (.ldc_w 397, 3) := by decide +kernel
theorem dX9_seed_8 : decode cX9_seed 8 = .ok (.if_icmp .le 6, 3) := by decide +kernel
theorem dX9_seed_11 : decode cX9_seed 11 = .ok (.bipush (-2), 2) := by decide +kernel
theorem dX9_seed_13 : decode cX9_seed 13 = .ok (.ireturn, 1) := by decide +kernel
theorem dX9_seed_14 : decode cX9_seed 14 = .ok (.aload_n 0, 1) := by decide +kernel
theorem dX9_seed_15 : decode cX9_seed 15 = .ok (.getfield 19, 3) := by decide +kernel
theorem dX9_seed_18 : decode cX9_seed 18 = .ok (.iload_n 1, 1) := by decide +kernel
theorem dX9_seed_19 : decode cX9_seed 19 = .ok (.i2l, 1) := by decide +kernel
theorem dX9_seed_20 : decode cX9_seed 20 = .ok (.putfield 398, 3) := by decide +kernel
theorem dX9_seed_23 : decode cX9_seed 23 = .ok (.iconst 0, 1) := by decide +kernel
theorem dX9_seed_24 : decode cX9_seed 24 = .ok (.ireturn, 1) := by decide +kernel
theorem dX9_count_0 : decode cX9_count 0 = .ok (.iload_n 1, 1) := by decide +kernel
theorem dX9_count_1 : decode cX9_count 1 = .ok (.tableswitch 194 0 12 #[67, 75, 83, 91, 99, 107, 118, 126, 137, 148, 159, 178, 189], 67) := by decide +kernel
theorem dX9_count_68 : decode cX9_count 68 = .ok (.aload_n 0, 1) := by decide +kernel
theorem dX9_count_69 : decode cX9_count 69 = .ok (.getfield 19, 3) := by decide +kernel
theorem dX9_count_72 : decode cX9_count 72 = .ok (.getfield 128, 3) := by decide +kernel
theorem dX9_count_75 : decode cX9_count 75 = .ok (.ireturn, 1) := by decide +kernel
theorem dX9_count_76 : decode cX9_count 76 = .ok (.aload_n 0, 1) := by decide +kernel
theorem dX9_count_77 : decode cX9_count 77 = .ok (.getfield 19, 3) := by decide +kernel
theorem dX9_count_80 : decode cX9_count 80 = .ok (.getfield 97, 3) := by decide +kernel
theorem dX9_count_83 : decode cX9_count 83 = .ok (.ireturn, 1) := by decide +kernel
theorem dX9_count_84 : decode cX9_count 84 = .ok (.aload_n 0, 1) := by decide +kernel
theorem dX9_count_85 : decode cX9_count 85 = .ok (.getfield 19, 3) := by decide +kernel
theorem dX9_count_88 : decode cX9_count 88 = .ok (.getfield 88, 3) := by decide +kernel
theorem dX9_count_91 : decode cX9_count 91 = .ok (.ireturn, 1) := by decide +kernel
theorem dX9_count_92 : decode cX9_count 92 = .ok (.aload_n 0, 1) := by decide +kernel
theorem dX9_count_93 : decode cX9_count 93 = .ok (.getfield 10, 3) := by decide +kernel
theorem dX9_count_96 : decode cX9_count 96 = .ok (.getfield 69, 3) := by decide +kernel
theorem dX9_count_99 : decode cX9_count 99 = .ok (.ireturn, 1) := by decide +kernel
theorem dX9_count_100 : decode cX9_count 100 = .ok (.aload_n 0, 1) := by decide +kernel
theorem dX9_count_101 : decode cX9_count 101 = .ok (.getfield 19, 3) := by decide +kernel
theorem dX9_count_104 : decode cX9_count 104 = .ok (.getfield 374, 3) := by decide +kernel
theorem dX9_count_107 : decode cX9_count 107 = .ok (.ireturn, 1) := by decide +kernel
theorem dX9_count_108 : decode cX9_count 108 = .ok (.aload_n 0, 1) := by decide +kernel
theorem dX9_count_109 : decode cX9_count 109 = .ok (.getfield 19, 3) := by decide +kernel
theorem dX9_count_112 : decode cX9_count 112 = .ok (.getfield 322, 3) := by decide +kernel
theorem dX9_count_115 : decode cX9_count 115 = .ok (.getfield 326, 3) := by decide +kernel
theorem dX9_count_118 : decode cX9_count 118 = .ok (.ireturn, 1) := by decide +kernel
theorem dX9_count_119 : decode cX9_count 119 = .ok (.aload_n 0, 1) := by decide +kernel
theorem dX9_count_120 : decode cX9_count 120 = .ok (.getfield 19, 3) := by decide +kernel
theorem dX9_count_123 : decode cX9_count 123 = .ok (.getfield 402, 3) := by decide +kernel
theorem dX9_count_126 : decode cX9_count 126 = .ok (.ireturn, 1) := by decide +kernel
theorem dX9_count_127 : decode cX9_count 127 = .ok (.aload_n 0, 1) := by decide +kernel
theorem dX9_count_128 : decode cX9_count 128 = .ok (.getfield 19, 3) := by decide +kernel
theorem dX9_count_131 : decode cX9_count 131 = .ok (.getfield 154, 3) := by decide +kernel
theorem dX9_count_134 : decode cX9_count 134 = .ok (.getfield 299, 3) := by decide +kernel
theorem dX9_count_137 : decode cX9_count 137 = .ok (.ireturn, 1) := by decide +kernel
theorem dX9_count_138 : decode cX9_count 138 = .ok (.aload_n 0, 1) := by decide +kernel
theorem dX9_count_139 : decode cX9_count 139 = .ok (.getfield 19, 3) := by decide +kernel
theorem dX9_count_142 : decode cX9_count 142 = .ok (.getfield 154, 3) := by decide +kernel
theorem dX9_count_145 : decode cX9_count 145 = .ok (.getfield 304, 3) := by decide +kernel
theorem dX9_count_148 : decode cX9_count 148 = .ok (.ireturn, 1) := by decide +kernel
theorem dX9_count_149 : decode cX9_count 149 = .ok (.aload_n 0, 1) := by decide +kernel
theorem dX9_count_150 : decode cX9_count 150 = .ok (.getfield 19, 3) := by decide +kernel
theorem dX9_count_153 : decode cX9_count 153 = .ok (.getfield 154, 3) := by decide +kernel
theorem dX9_count_156 : decode cX9_count 156 = .ok (.getfield 307, 3) := by decide +kernel
theorem dX9_count_159 : decode cX9_count 159 = .ok (.ireturn, 1) := by decide +kernel
theorem dX9_count_160 : decode cX9_count 160 = .ok (.aload_n 0, 1) := by decide +kernel
theorem dX9_count_161 : decode cX9_count 161 = .ok (.getfield 19, 3) := by decide +kernel
theorem dX9_count_164 : decode cX9_count 164 = .ok (.getfield 154, 3) := by decide +kernel
theorem dX9_count_167 : decode cX9_count 167 = .ok (.getfield 310, 3) := by decide +kernel
theorem dX9_count_170 : decode cX9_count 170 = .ok (.ifCond .eq 7, 3) := by decide +kernel
theorem dX9_count_173 : decode cX9_count 173 = .ok (.iconst 1, 1) := by decide +kernel
theorem dX9_count_174 : decode cX9_count 174 = .ok (.goto 4, 3) := by decide +kernel
theorem dX9_count_177 : decode cX9_count 177 = .ok (.iconst 0, 1) := by decide +kernel
theorem dX9_count_178 : decode cX9_count 178 = .ok (.ireturn, 1) := by decide +kernel
theorem dX9_count_179 : decode cX9_count 179 = .ok (.aload_n 0, 1) := by decide +kernel
theorem dX9_count_180 : decode cX9_count 180 = .ok (.getfield 19, 3) := by decide +kernel
theorem dX9_count_183 : decode cX9_count 183 = .ok (.getfield 154, 3) := by decide +kernel
theorem dX9_count_186 : decode cX9_count 186 = .ok (.getfield 352, 3) := by decide +kernel
theorem dX9_count_189 : decode cX9_count 189 = .ok (.ireturn, 1) := by decide +kernel
theorem dX9_count_190 : decode cX9_count 190 = .ok (.aload_n 0, 1) := by decide +kernel
theorem dX9_count_191 : decode cX9_count 191 = .ok (.invokevirtual 405, 3) := by decide +kernel
theorem dX9_count_194 : decode cX9_count 194 = .ok (.ireturn, 1) := by decide +kernel
theorem dX9_count_195 : decode cX9_count 195 = .ok (.iconst (-1), 1) := by decide +kernel
theorem dX9_count_196 : decode cX9_count 196 = .ok (.ireturn, 1) := by decide +kernel
theorem dX9_slotsWithRow_0 : decode cX9_slotsWithRow 0 = .ok (.iconst 0, 1) := by decide +kernel
theorem dX9_slotsWithRow_1 : decode cX9_slotsWithRow 1 = .ok (.istore_n 1, 1) := by decide +kernel
theorem dX9_slotsWithRow_2 : decode cX9_slotsWithRow 2 = .ok (.iconst 0, 1) := by decide +kernel
theorem dX9_slotsWithRow_3 : decode cX9_slotsWithRow 3 = .ok (.istore_n 2, 1) := by decide +kernel
theorem dX9_slotsWithRow_4 : decode cX9_slotsWithRow 4 = .ok (.iload_n 2, 1) := by decide +kernel
theorem dX9_slotsWithRow_5 : decode cX9_slotsWithRow 5 = .ok (.iconst 4, 1) := by decide +kernel
theorem dX9_slotsWithRow_6 : decode cX9_slotsWithRow 6 = .ok (.if_icmp .ge 29, 3) := by decide +kernel
theorem dX9_slotsWithRow_9 : decode cX9_slotsWithRow 9 = .ok (.iload_n 1, 1) := by decide +kernel
theorem dX9_slotsWithRow_10 : decode cX9_slotsWithRow 10 = .ok (.aload_n 0, 1) := by decide +kernel
theorem dX9_slotsWithRow_11 : decode cX9_slotsWithRow 11 = .ok (.getfield 36, 3) := by decide +kernel
theorem dX9_slotsWithRow_14 : decode cX9_slotsWithRow 14 = .ok (.iload_n 2, 1) := by decide +kernel
theorem dX9_slotsWithRow_15 : decode cX9_slotsWithRow 15 = .ok (.aaload, 1) := by decide +kernel
theorem dX9_slotsWithRow_16 : decode cX9_slotsWithRow 16 = .ok (.getfield 198, 3) := by decide +kernel
theorem dX9_slotsWithRow_19 : decode cX9_slotsWithRow 19 = .ok (.ifCond .eq 7, 3) := by decide +kernel
theorem dX9_slotsWithRow_22 : decode cX9_slotsWithRow 22 = .ok (.iconst 1, 1) := by decide +kernel
theorem dX9_slotsWithRow_23 : decode cX9_slotsWithRow 23 = .ok (.goto 4, 3) := by decide +kernel
theorem dX9_slotsWithRow_26 : decode cX9_slotsWithRow 26 = .ok (.iconst 0, 1) := by decide +kernel
theorem dX9_slotsWithRow_27 : decode cX9_slotsWithRow 27 = .ok (.iadd, 1) := by decide +kernel
theorem dX9_slotsWithRow_28 : decode cX9_slotsWithRow 28 = .ok (.istore_n 1, 1) := by decide +kernel
theorem dX9_slotsWithRow_29 : decode cX9_slotsWithRow 29 = .ok (.iinc 2 1, 3) := by decide +kernel
theorem dX9_slotsWithRow_32 : decode cX9_slotsWithRow 32 = .ok (.goto (-28), 3) := by decide +kernel
theorem dX9_slotsWithRow_35 : decode cX9_slotsWithRow 35 = .ok (.iload_n 1, 1) := by decide +kernel
theorem dX9_slotsWithRow_36 : decode cX9_slotsWithRow 36 = .ok (.ireturn, 1) := by decide +kernel
theorem dX9_keep_0 : decode cX9_keep 0 = .ok (.iload_n 1, 1) := by decide +kernel
theorem dX9_keep_1 : decode cX9_keep 1 = .ok (.ifCond .lt 8, 3) := by decide +kernel
theorem dX9_keep_4 : decode cX9_keep 4 = .ok (.iload_n 1, 1) := by decide +kernel
theorem dX9_keep_5 : decode cX9_keep 5 = .ok (.iconst 3, 1) := by decide +kernel
theorem dX9_keep_6 : decode cX9_keep 6 = .ok (.if_icmp .lt 6, 3) := by decide +kernel
theorem dX9_keep_9 : decode cX9_keep 9 = .ok (.bipush (-2), 2) := by decide +kernel
theorem dX9_keep_11 : decode cX9_keep 11 = .ok (.ireturn, 1) := by decide +kernel
theorem dX9_keep_12 : decode cX9_keep 12 = .ok (.aload_n 0, 1) := by decide +kernel
theorem dX9_keep_13 : decode cX9_keep 13 = .ok (.getfield 27, 3) := by decide +kernel
theorem dX9_keep_16 : decode cX9_keep 16 = .ok (.iload_n 1, 1) := by decide +kernel
theorem dX9_keep_17 : decode cX9_keep 17 = .ok (.aaload, 1) := by decide +kernel
theorem dX9_keep_18 : decode cX9_keep 18 = .ok (.aload_n 0, 1) := by decide +kernel
theorem dX9_keep_19 : decode cX9_keep 19 = .ok (.getfield 19, 3) := by decide +kernel
theorem dX9_keep_22 : decode cX9_keep 22 = .ok (.invokevirtual 84, 3) := by decide +kernel
theorem dX9_keep_25 : decode cX9_keep 25 = .ok (.aload_n 0, 1) := by decide +kernel
theorem dX9_keep_26 : decode cX9_keep 26 = .ok (.getfield 30, 3) := by decide +kernel
theorem dX9_keep_29 : decode cX9_keep 29 = .ok (.iload_n 1, 1) := by decide +kernel
theorem dX9_keep_30 : decode cX9_keep 30 = .ok (.iconst 1, 1) := by decide +kernel
theorem dX9_keep_31 : decode cX9_keep 31 = .ok (.bastore, 1) := by decide +kernel
theorem dX9_keep_32 : decode cX9_keep 32 = .ok (.iconst 0, 1) := by decide +kernel
theorem dX9_keep_33 : decode cX9_keep 33 = .ok (.ireturn, 1) := by decide +kernel
theorem dX9_back_0 : decode cX9_back 0 = .ok (.iload_n 1, 1) := by decide +kernel
theorem dX9_back_1 : decode cX9_back 1 = .ok (.ifCond .lt 8, 3) := by decide +kernel
theorem dX9_back_4 : decode cX9_back 4 = .ok (.iload_n 1, 1) := by decide +kernel
theorem dX9_back_5 : decode cX9_back 5 = .ok (.iconst 3, 1) := by decide +kernel
theorem dX9_back_6 : decode cX9_back 6 = .ok (.if_icmp .lt 6, 3) := by decide +kernel
theorem dX9_back_9 : decode cX9_back 9 = .ok (.bipush (-2), 2) := by decide +kernel
theorem dX9_back_11 : decode cX9_back 11 = .ok (.ireturn, 1) := by decide +kernel
theorem dX9_back_12 : decode cX9_back 12 = .ok (.aload_n 0, 1) := by decide +kernel
theorem dX9_back_13 : decode cX9_back 13 = .ok (.getfield 30, 3) := by decide +kernel
theorem dX9_back_16 : decode cX9_back 16 = .ok (.iload_n 1, 1) := by decide +kernel
theorem dX9_back_17 : decode cX9_back 17 = .ok (.baload, 1) := by decide +kernel
theorem dX9_back_18 : decode cX9_back 18 = .ok (.ifCond .ne 6, 3) := by decide +kernel
theorem dX9_back_21 : decode cX9_back 21 = .ok (.bipush (-6), 2) := by decide +kernel
theorem dX9_back_23 : decode cX9_back 23 = .ok (.ireturn, 1) := by decide +kernel
theorem dX9_back_24 : decode cX9_back 24 = .ok (.aload_n 0, 1) := by decide +kernel
theorem dX9_back_25 : decode cX9_back 25 = .ok (.getfield 19, 3) := by decide +kernel
theorem dX9_back_28 : decode cX9_back 28 = .ok (.aload_n 0, 1) := by decide +kernel
theorem dX9_back_29 : decode cX9_back 29 = .ok (.getfield 27, 3) := by decide +kernel
theorem dX9_back_32 : decode cX9_back 32 = .ok (.iload_n 1, 1) := by decide +kernel
theorem dX9_back_33 : decode cX9_back 33 = .ok (.aaload, 1) := by decide +kernel
theorem dX9_back_34 : decode cX9_back 34 = .ok (.invokevirtual 84, 3) := by decide +kernel
theorem dX9_back_37 : decode cX9_back 37 = .ok (.iconst 0, 1) := by decide +kernel
theorem dX9_back_38 : decode cX9_back 38 = .ok (.ireturn, 1) := by decide +kernel
theorem dX9_isSlot_0 : decode cX9_isSlot 0 = .ok (.iload_n 0, 1) := by decide +kernel
theorem dX9_isSlot_1 : decode cX9_isSlot 1 = .ok (.ifCond .lt 12, 3) := by decide +kernel
theorem dX9_isSlot_4 : decode cX9_isSlot 4 = .ok (.iload_n 0, 1) := by decide +kernel
theorem dX9_isSlot_5 : decode cX9_isSlot 5 = .ok (.iconst 4, 1) := by decide +kernel
theorem dX9_isSlot_6 : decode cX9_isSlot 6 = .ok (.if_icmp .ge 7, 3) := by decide +kernel
theorem dX9_isSlot_9 : decode cX9_isSlot 9 = .ok (.iconst 1, 1) := by decide +kernel
theorem dX9_isSlot_10 : decode cX9_isSlot 10 = .ok (.goto 4, 3) := by decide +kernel
theorem dX9_isSlot_13 : decode cX9_isSlot 13 = .ok (.iconst 0, 1) := by decide +kernel
theorem dX9_isSlot_14 : decode cX9_isSlot 14 = .ok (.ireturn, 1) := by decide +kernel
theorem dX9_row_0 : decode cX9_row 0 = .ok (.iload_n 1, 1) := by decide +kernel
theorem dX9_row_1 : decode cX9_row 1 = .ok (.invokestatic 408, 3) := by decide +kernel
theorem dX9_row_4 : decode cX9_row 4 = .ok (.ifCond .eq 18, 3) := by decide +kernel
theorem dX9_row_7 : decode cX9_row 7 = .ok (.iload_n 2, 1) := by decide +kernel
theorem dX9_row_8 : decode cX9_row 8 = .ok (.ifCond .lt 14, 3) := by decide +kernel
theorem dX9_row_11 : decode cX9_row 11 = .ok (.iload_n 2, 1) := by decide +kernel
theorem dX9_row_12 : decode cX9_row 12 = .ok (.iconst 4, 1) := by decide +kernel
theorem dX9_row_13 : decode cX9_row 13 = .ok (.if_icmp .ge 9, 3) := by decide +kernel
theorem dX9_row_16 : decode cX9_row 16 = .ok (.iload_n 3, 1) := by decide +kernel
theorem dX9_row_17 : decode cX9_row 17 = .ok (.bipush 60, 2) := by decide +kernel
theorem dX9_row_19 : decode cX9_row 19 = .ok (.if_icmp .le 6, 3) := by decide +kernel
theorem dX9_row_22 : decode cX9_row 22 = .ok (.bipush (-2), 2) := by decide +kernel
theorem dX9_row_24 : decode cX9_row 24 = .ok (.ireturn, 1) := by decide +kernel
theorem dX9_row_25 : decode cX9_row 25 = .ok (.iload_n 3, 1) := by decide +kernel
theorem dX9_row_26 : decode cX9_row 26 = .ok (.ifCond .ge 6, 3) := by decide +kernel
theorem dX9_row_29 : decode cX9_row 29 = .ok (.bipush (-3), 2) := by decide +kernel
theorem dX9_row_31 : decode cX9_row 31 = .ok (.ireturn, 1) := by decide +kernel
theorem dX9_row_32 : decode cX9_row 32 = .ok (.aload_n 0, 1) := by decide +kernel
theorem dX9_row_33 : decode cX9_row 33 = .ok (.getfield 36, 3) := by decide +kernel
theorem dX9_row_36 : decode cX9_row 36 = .ok (.iload_n 1, 1) := by decide +kernel
theorem dX9_row_37 : decode cX9_row 37 = .ok (.aaload, 1) := by decide +kernel
theorem dX9_row_38 : decode cX9_row 38 = .ok (.iload_n 2, 1) := by decide +kernel
theorem dX9_row_39 : decode cX9_row 39 = .ok (.iload_n 3, 1) := by decide +kernel
theorem dX9_row_40 : decode cX9_row 40 = .ok (.invokevirtual 411, 3) := by decide +kernel
theorem dX9_row_43 : decode cX9_row 43 = .ok (.iconst 0, 1) := by decide +kernel
theorem dX9_row_44 : decode cX9_row 44 = .ok (.ireturn, 1) := by decide +kernel
theorem dX9_write_0 : decode cX9_write 0 = .ok (.iload_n 1, 1) := by decide +kernel
theorem dX9_write_1 : decode cX9_write 1 = .ok (.invokestatic 408, 3) := by decide +kernel
theorem dX9_write_4 : decode cX9_write 4 = .ok (.ifCond .ne 6, 3) := by decide +kernel
theorem dX9_write_7 : decode cX9_write 7 = .ok (.bipush (-2), 2) := by decide +kernel
theorem dX9_write_9 : decode cX9_write 9 = .ok (.ireturn, 1) := by decide +kernel
theorem dX9_write_10 : decode cX9_write 10 = .ok (.aload_n 0, 1) := by decide +kernel
theorem dX9_write_11 : decode cX9_write 11 = .ok (.getfield 36, 3) := by decide +kernel
theorem dX9_write_14 : decode cX9_write 14 = .ok (.iload_n 1, 1) := by decide +kernel
theorem dX9_write_15 : decode cX9_write 15 = .ok (.aaload, 1) := by decide +kernel
theorem dX9_write_16 : decode cX9_write 16 = .ok (.astore 5, 2) := by decide +kernel
theorem dX9_write_18 : decode cX9_write 18 = .ok (.aload 5, 2) := by decide +kernel
theorem dX9_write_20 : decode cX9_write 20 = .ok (.getfield 198, 3) := by decide +kernel
theorem dX9_write_23 : decode cX9_write 23 = .ok (.ifCond .ne 6, 3) := by decide +kernel
theorem dX9_write_26 : decode cX9_write 26 = .ok (.bipush (-6), 2) := by decide +kernel
theorem dX9_write_28 : decode cX9_write 28 = .ok (.ireturn, 1) := by decide +kernel
theorem dX9_write_29 : decode cX9_write 29 = .ok (.iload_n 2, 1) := by decide +kernel
theorem dX9_write_30 : decode cX9_write 30 = .ok (.ifCond .lt 12, 3) := by decide +kernel
theorem dX9_write_33 : decode cX9_write 33 = .ok (.iload_n 2, 1) := by decide +kernel
theorem dX9_write_34 : decode cX9_write 34 = .ok (.aload 5, 2) := by decide +kernel
theorem dX9_write_36 : decode cX9_write 36 = .ok (.getfield 206, 3) := by decide +kernel
theorem dX9_write_39 : decode cX9_write 39 = .ok (.if_icmp .lt 6, 3) := by decide +kernel
theorem dX9_write_42 : decode cX9_write 42 = .ok (.bipush (-7), 2) := by decide +kernel
theorem dX9_write_44 : decode cX9_write 44 = .ok (.ireturn, 1) := by decide +kernel
theorem dX9_write_45 : decode cX9_write 45 = .ok (.aload 5, 2) := by decide +kernel
theorem dX9_write_47 : decode cX9_write 47 = .ok (.iload_n 2, 1) := by decide +kernel
theorem dX9_write_48 : decode cX9_write 48 = .ok (.lload_n 3, 1) := by decide +kernel
theorem dX9_write_49 : decode cX9_write 49 = .ok (.invokevirtual 414, 3) := by decide +kernel
theorem dX9_write_52 : decode cX9_write 52 = .ok (.iconst 0, 1) := by decide +kernel
theorem dX9_write_53 : decode cX9_write 53 = .ok (.ireturn, 1) := by decide +kernel
theorem dX9_paste_0 : decode cX9_paste 0 = .ok (.iload_n 1, 1) := by decide +kernel
theorem dX9_paste_1 : decode cX9_paste 1 = .ok (.invokestatic 408, 3) := by decide +kernel
theorem dX9_paste_4 : decode cX9_paste 4 = .ok (.ifCond .eq 10, 3) := by decide +kernel
theorem dX9_paste_7 : decode cX9_paste 7 = .ok (.iload_n 3, 1) := by decide +kernel
theorem dX9_paste_8 : decode cX9_paste 8 = .ok (.invokestatic 408, 3) := by decide +kernel
theorem dX9_paste_11 : decode cX9_paste 11 = .ok (.ifCond .ne 6, 3) := by decide +kernel
theorem dX9_paste_14 : decode cX9_paste 14 = .ok (.bipush (-2), 2) := by decide +kernel
theorem dX9_paste_16 : decode cX9_paste 16 = .ok (.ireturn, 1) := by decide +kernel
theorem dX9_paste_17 : decode cX9_paste 17 = .ok (.aload_n 0, 1) := by decide +kernel
theorem dX9_paste_18 : decode cX9_paste 18 = .ok (.getfield 36, 3) := by decide +kernel
theorem dX9_paste_21 : decode cX9_paste 21 = .ok (.iload_n 1, 1) := by decide +kernel
theorem dX9_paste_22 : decode cX9_paste 22 = .ok (.aaload, 1) := by decide +kernel
theorem dX9_paste_23 : decode cX9_paste 23 = .ok (.astore 6, 2) := by decide +kernel
theorem dX9_paste_25 : decode cX9_paste 25 = .ok (.aload_n 0, 1) := by decide +kernel
theorem dX9_paste_26 : decode cX9_paste 26 = .ok (.getfield 36, 3) := by decide +kernel
theorem dX9_paste_29 : decode cX9_paste 29 = .ok (.iload_n 3, 1) := by decide +kernel
theorem dX9_paste_30 : decode cX9_paste 30 = .ok (.aaload, 1) := by decide +kernel
theorem dX9_paste_31 : decode cX9_paste 31 = .ok (.astore 7, 2) := by decide +kernel
theorem dX9_paste_33 : decode cX9_paste 33 = .ok (.aload 6, 2) := by decide +kernel
theorem dX9_paste_35 : decode cX9_paste 35 = .ok (.getfield 198, 3) := by decide +kernel
theorem dX9_paste_38 : decode cX9_paste 38 = .ok (.ifCond .eq 11, 3) := by decide +kernel
theorem dX9_paste_41 : decode cX9_paste 41 = .ok (.aload 7, 2) := by decide +kernel
theorem dX9_paste_43 : decode cX9_paste 43 = .ok (.getfield 198, 3) := by decide +kernel
theorem dX9_paste_46 : decode cX9_paste 46 = .ok (.ifCond .ne 6, 3) := by decide +kernel
theorem dX9_paste_49 : decode cX9_paste 49 = .ok (.bipush (-6), 2) := by decide +kernel
theorem dX9_paste_51 : decode cX9_paste 51 = .ok (.ireturn, 1) := by decide +kernel
theorem dX9_paste_52 : decode cX9_paste 52 = .ok (.aload 6, 2) := by decide +kernel
theorem dX9_paste_54 : decode cX9_paste 54 = .ok (.getfield 418, 3) := by decide +kernel
theorem dX9_paste_57 : decode cX9_paste 57 = .ok (.aload 7, 2) := by decide +kernel
theorem dX9_paste_59 : decode cX9_paste 59 = .ok (.getfield 418, 3) := by decide +kernel
theorem dX9_paste_62 : decode cX9_paste 62 = .ok (.if_icmp .eq 6, 3) := by decide +kernel
theorem dX9_paste_65 : decode cX9_paste 65 = .ok (.bipush (-8), 2) := by decide +kernel
theorem dX9_paste_67 : decode cX9_paste 67 = .ok (.ireturn, 1) := by decide +kernel
theorem dX9_paste_68 : decode cX9_paste 68 = .ok (.aload 6, 2) := by decide +kernel
theorem dX9_paste_70 : decode cX9_paste 70 = .ok (.iload_n 2, 1) := by decide +kernel
theorem dX9_paste_71 : decode cX9_paste 71 = .ok (.iload 5, 2) := by decide +kernel
theorem dX9_paste_73 : decode cX9_paste 73 = .ok (.invokevirtual 421, 3) := by decide +kernel
theorem dX9_paste_76 : decode cX9_paste 76 = .ok (.ifCond .eq 15, 3) := by decide +kernel
theorem dX9_paste_79 : decode cX9_paste 79 = .ok (.aload 7, 2) := by decide +kernel
theorem dX9_paste_81 : decode cX9_paste 81 = .ok (.iload 4, 2) := by decide +kernel
theorem dX9_paste_83 : decode cX9_paste 83 = .ok (.iload 5, 2) := by decide +kernel
theorem dX9_paste_85 : decode cX9_paste 85 = .ok (.invokevirtual 421, 3) := by decide +kernel
theorem dX9_paste_88 : decode cX9_paste 88 = .ok (.ifCond .ne 6, 3) := by decide +kernel
theorem dX9_paste_91 : decode cX9_paste 91 = .ok (.bipush (-7), 2) := by decide +kernel
theorem dX9_paste_93 : decode cX9_paste 93 = .ok (.ireturn, 1) := by decide +kernel
theorem dX9_paste_94 : decode cX9_paste 94 = .ok (.aload 6, 2) := by decide +kernel
theorem dX9_paste_96 : decode cX9_paste 96 = .ok (.getfield 207, 3) := by decide +kernel
theorem dX9_paste_99 : decode cX9_paste 99 = .ok (.iload_n 2, 1) := by decide +kernel
theorem dX9_paste_100 : decode cX9_paste 100 = .ok (.aload 7, 2) := by decide +kernel
theorem dX9_paste_102 : decode cX9_paste 102 = .ok (.getfield 207, 3) := by decide +kernel
theorem dX9_paste_105 : decode cX9_paste 105 = .ok (.iload 4, 2) := by decide +kernel
theorem dX9_paste_107 : decode cX9_paste 107 = .ok (.iload 5, 2) := by decide +kernel
theorem dX9_paste_109 : decode cX9_paste 109 = .ok (.invokestatic 424, 3) := by decide +kernel
theorem dX9_paste_112 : decode cX9_paste 112 = .ok (.iconst 0, 1) := by decide +kernel
theorem dX9_paste_113 : decode cX9_paste 113 = .ok (.ireturn, 1) := by decide +kernel
theorem dX10_in_0 : decode cX10_in 0 = .ok (.lload_n 0, 1) := by decide +kernel
theorem dX10_in_1 : decode cX10_in 1 = .ok (.lload_n 2, 1) := by decide +kernel
theorem dX10_in_2 : decode cX10_in 2 = .ok (.lcmp, 1) := by decide +kernel
theorem dX10_in_3 : decode cX10_in 3 = .ok (.ifCond .lt 14, 3) := by decide +kernel
theorem dX10_in_6 : decode cX10_in 6 = .ok (.lload_n 0, 1) := by decide +kernel
theorem dX10_in_7 : decode cX10_in 7 = .ok (.lload 4, 2) := by decide +kernel
theorem dX10_in_9 : decode cX10_in 9 = .ok (.lcmp, 1) := by decide +kernel
theorem dX10_in_10 : decode cX10_in 10 = .ok (.ifCond .gt 7, 3) := by decide +kernel
theorem dX10_in_13 : decode cX10_in 13 = .ok (.iconst 1, 1) := by decide +kernel
theorem dX10_in_14 : decode cX10_in 14 = .ok (.goto 4, 3) := by decide +kernel
theorem dX10_in_17 : decode cX10_in 17 = .ok (.iconst 0, 1) := by decide +kernel
theorem dX10_in_18 : decode cX10_in 18 = .ok (.ireturn, 1) := by decide +kernel
theorem dX10_init_0 : decode cX10_init 0 = .ok (.aload_n 0, 1) := by decide +kernel
theorem dX10_init_1 : decode cX10_init 1 = .ok (.invokespecial 7, 3) := by decide +kernel
theorem dX10_init_4 : decode cX10_init 4 = .ok (.aload_n 0, 1) := by decide +kernel
theorem dX10_init_5 : decode cX10_init 5 = .ok (.sipush 178, 3) := by decide +kernel
theorem dX10_init_8 : decode cX10_init 8 = .ok (.newarray .int, 2) := by decide +kernel
theorem dX10_init_10 : decode cX10_init 10 = .ok (.putfield 13, 3) := by decide +kernel
theorem dX10_init_13 : decode cX10_init 13 = .ok (.aload_n 0, 1) := by decide +kernel
theorem dX10_init_14 : decode cX10_init 14 = .ok (.sipush 534, 3) := by decide +kernel
theorem dX10_init_17 : decode cX10_init 17 = .ok (.newarray .int, 2) := by decide +kernel
theorem dX10_init_19 : decode cX10_init 19 = .ok (.putfield 17, 3) := by decide +kernel
theorem dX10_init_22 : decode cX10_init 22 = .ok (.aload_n 0, 1) := by decide +kernel
theorem dX10_init_23 : decode cX10_init 23 = .ok (.iconst 3, 1) := by decide +kernel
theorem dX10_init_24 : decode cX10_init 24 = .ok (.newarray .long, 2) := by decide +kernel
theorem dX10_init_26 : decode cX10_init 26 = .ok (.putfield 20, 3) := by decide +kernel
theorem dX10_init_29 : decode cX10_init 29 = .ok (.aload_n 0, 1) := by decide +kernel
theorem dX10_init_30 : decode cX10_init 30 = .ok (.iconst 3, 1) := by decide +kernel
theorem dX10_init_31 : decode cX10_init 31 = .ok (.newarray .boolean, 2) := by decide +kernel
theorem dX10_init_33 : decode cX10_init 33 = .ok (.putfield 24, 3) := by decide +kernel
theorem dX10_init_36 : decode cX10_init 36 = .ok (.aload_n 0, 1) := by decide +kernel
theorem dX10_init_37 : decode cX10_init 37 = .ok (.sipush 1600, 3) := by decide +kernel
theorem dX10_init_40 : decode cX10_init 40 = .ok (.newarray .byte, 2) := by decide +kernel
theorem dX10_init_42 : decode cX10_init 42 = .ok (.putfield 28, 3) := by decide +kernel
theorem dX10_init_45 : decode cX10_init 45 = .ok (.aload_n 0, 1) := by decide +kernel
theorem dX10_init_46 : decode cX10_init 46 = .ok (.iconst 5, 1) := by decide +kernel
theorem dX10_init_47 : decode cX10_init 47 = .ok (.newarray .int, 2) := by decide +kernel
theorem dX10_init_49 : decode cX10_init 49 = .ok (.putfield 32, 3) := by decide +kernel
theorem dX10_init_52 : decode cX10_init 52 = .ok (.aload_n 0, 1) := by decide +kernel
theorem dX10_init_53 : decode cX10_init 53 = .ok (.iconst (-1), 1) := by decide +kernel
theorem dX10_init_54 : decode cX10_init 54 = .ok (.putfield 35, 3) := by decide +kernel
theorem dX10_init_57 : decode cX10_init 57 = .ok (.aload_n 0, 1) := by decide +kernel
theorem dX10_init_58 : decode cX10_init 58 = .ok (.sipush 178, 3) := by decide +kernel
theorem dX10_init_61 : decode cX10_init 61 = .ok (.newarray .int, 2) := by decide +kernel
theorem dX10_init_63 : decode cX10_init 63 = .ok (.putfield 38, 3) := by decide +kernel
theorem dX10_init_66 : decode cX10_init 66 = .ok (.aload_n 0, 1) := by decide +kernel
theorem dX10_init_67 : decode cX10_init 67 = .ok (.sipush 712, 3) := by decide +kernel
theorem dX10_init_70 : decode cX10_init 70 = .ok (.newarray .int, 2) := by decide +kernel
theorem dX10_init_72 : decode cX10_init 72 = .ok (.putfield 41, 3) := by decide +kernel
theorem dX10_init_75 : decode cX10_init 75 = .ok (.aload_n 0, 1) := by decide +kernel
theorem dX10_init_76 : decode cX10_init 76 = .ok (.iconst 4, 1) := by decide +kernel
theorem dX10_init_77 : decode cX10_init 77 = .ok (.newarray .long, 2) := by decide +kernel
theorem dX10_init_79 : decode cX10_init 79 = .ok (.putfield 44, 3) := by decide +kernel
theorem dX10_init_82 : decode cX10_init 82 = .ok (.aload_n 0, 1) := by decide +kernel
theorem dX10_init_83 : decode cX10_init 83 = .ok (.bipush 8, 2) := by decide +kernel
theorem dX10_init_85 : decode cX10_init 85 = .ok (.newarray .int, 2) := by decide +kernel
theorem dX10_init_87 : decode cX10_init 87 = .ok (.putfield 47, 3) := by decide +kernel
theorem dX10_init_90 : decode cX10_init 90 = .ok (.aload_n 0, 1) := by decide +kernel
theorem dX10_init_91 : decode cX10_init 91 = .ok (.bipush 8, 2) := by decide +kernel
theorem dX10_init_93 : decode cX10_init 93 = .ok (.newarray .int, 2) := by decide +kernel
theorem dX10_init_95 : decode cX10_init 95 = .ok (.putfield 50, 3) := by decide +kernel
theorem dX10_init_98 : decode cX10_init 98 = .ok (.aload_n 0, 1) := by decide +kernel
theorem dX10_init_99 : decode cX10_init 99 = .ok (.iconst 5, 1) := by decide +kernel
theorem dX10_init_100 : decode cX10_init 100 = .ok (.newarray .int, 2) := by decide +kernel
theorem dX10_init_102 : decode cX10_init 102 = .ok (.putfield 53, 3) := by decide +kernel
theorem dX10_init_105 : decode cX10_init 105 = .ok (.aload_n 0, 1) := by decide +kernel
theorem dX10_init_106 : decode cX10_init 106 = .ok (.bipush 8, 2) := by decide +kernel
theorem dX10_init_108 : decode cX10_init 108 = .ok (.newarray .int, 2) := by decide +kernel
theorem dX10_init_110 : decode cX10_init 110 = .ok (.putfield 56, 3) := by decide +kernel
theorem dX10_init_113 : decode cX10_init 113 = .ok (.aload_n 0, 1) := by decide +kernel
theorem dX10_init_114 : decode cX10_init 114 = .ok (.bipush 8, 2) := by decide +kernel
theorem dX10_init_116 : decode cX10_init 116 = .ok (.newarray .int, 2) := by decide +kernel
theorem dX10_init_118 : decode cX10_init 118 = .ok (.putfield 59, 3) := by decide +kernel
theorem dX10_init_121 : decode cX10_init 121 = .ok (.aload_n 0, 1) := by decide +kernel
theorem dX10_init_122 : decode cX10_init 122 = .ok (.iconst 5, 1) := by decide +kernel
theorem dX10_init_123 : decode cX10_init 123 = .ok (.newarray .int, 2) := by decide +kernel
theorem dX10_init_125 : decode cX10_init 125 = .ok (.putfield 62, 3) := by decide +kernel
theorem dX10_init_128 : decode cX10_init 128 = .ok (.aload_n 0, 1) := by decide +kernel
theorem dX10_init_129 : decode cX10_init 129 = .ok (.bipush 8, 2) := by decide +kernel
theorem dX10_init_131 : decode cX10_init 131 = .ok (.newarray .int, 2) := by decide +kernel
theorem dX10_init_133 : decode cX10_init 133 = .ok (.putfield 65, 3) := by decide +kernel
theorem dX10_init_136 : decode cX10_init 136 = .ok (.aload_n 0, 1) := by decide +kernel
theorem dX10_init_137 : decode cX10_init 137 = .ok (.bipush 8, 2) := by decide +kernel
theorem dX10_init_139 : decode cX10_init 139 = .ok (.newarray .int, 2) := by decide +kernel
theorem dX10_init_141 : decode cX10_init 141 = .ok (.putfield 68, 3) := by decide +kernel
theorem dX10_init_144 : decode cX10_init 144 = .ok (.aload_n 0, 1) := by decide +kernel
theorem dX10_init_145 : decode cX10_init 145 = .ok (.bipush 30, 2) := by decide +kernel
theorem dX10_init_147 : decode cX10_init 147 = .ok (.newarray .int, 2) := by decide +kernel
theorem dX10_init_149 : decode cX10_init 149 = .ok (.putfield 71, 3) := by decide +kernel
theorem dX10_init_152 : decode cX10_init 152 = .ok (.aload_n 0, 1) := by decide +kernel
theorem dX10_init_153 : decode cX10_init 153 = .ok (.iconst 4, 1) := by decide +kernel
theorem dX10_init_154 : decode cX10_init 154 = .ok (.newarray .int, 2) := by decide +kernel
theorem dX10_init_156 : decode cX10_init 156 = .ok (.putfield 74, 3) := by decide +kernel
theorem dX10_init_159 : decode cX10_init 159 = .ok (.aload_n 0, 1) := by decide +kernel
theorem dX10_init_160 : decode cX10_init 160 = .ok (.iconst 4, 1) := by decide +kernel
theorem dX10_init_161 : decode cX10_init 161 = .ok (.newarray .int, 2) := by decide +kernel
theorem dX10_init_163 : decode cX10_init 163 = .ok (.putfield 77, 3) := by decide +kernel
theorem dX10_init_166 : decode cX10_init 166 = .ok (.aload_n 0, 1) := by decide +kernel
theorem dX10_init_167 : decode cX10_init 167 = .ok (.iconst 4, 1) := by decide +kernel
theorem dX10_init_168 : decode cX10_init 168 = .ok (.newarray .int, 2) := by decide +kernel
theorem dX10_init_170 : decode cX10_init 170 = .ok (.dup, 1) := by decide +kernel
theorem dX10_init_171 : decode cX10_init 171 = .ok (.iconst 0, 1) := by decide +kernel
theorem dX10_init_172 : decode cX10_init 172 = .ok (.iconst (-1), 1) := by decide +kernel
theorem dX10_init_173 : decode cX10_init 173 = .ok (.iastore, 1) := by decide +kernel
theorem dX10_init_174 : decode cX10_init 174 = .ok (.dup, 1) := by decide +kernel
theorem dX10_init_175 : decode cX10_init 175 = .ok (.iconst 1, 1) := by decide +kernel
theorem dX10_init_176 : decode cX10_init 176 = .ok (.iconst (-1), 1) := by decide +kernel
theorem dX10_init_177 : decode cX10_init 177 = .ok (.iastore, 1) := by decide +kernel
theorem dX10_init_178 : decode cX10_init 178 = .ok (.dup, 1) := by decide +kernel
theorem dX10_init_179 : decode cX10_init 179 = .ok (.iconst 2, 1) := by decide +kernel
theorem dX10_init_180 : decode cX10_init 180 = .ok (.iconst (-1), 1) := by decide +kernel
theorem dX10_init_181 : decode cX10_init 181 = .ok (.iastore, 1) := by decide +kernel
theorem dX10_init_182 : decode cX10_init 182 = .ok (.dup, 1) := by decide +kernel
theorem dX10_init_183 : decode cX10_init 183 = .ok (.iconst 3, 1) := by decide +kernel
theorem dX10_init_184 : decode cX10_init 184 = .ok (.iconst (-1), 1) := by decide +kernel
theorem dX10_init_185 : decode cX10_init 185 = .ok (.iastore, 1) := by decide +kernel
theorem dX10_init_186 : decode cX10_init 186 = .ok (.putfield 80, 3) := by decide +kernel
theorem dX10_init_189 : decode cX10_init 189 = .ok (.aload_n 0, 1) := by decide +kernel
theorem dX10_init_190 : decode cX10_init 190 = .ok (.iconst 4, 1) := by decide +kernel
theorem dX10_init_191 : decode cX10_init 191 = .ok (.newarray .int, 2) := by decide +kernel
theorem dX10_init_193 : decode cX10_init 193 = .ok (.putfield 83, 3) := by decide +kernel
theorem dX10_init_196 : decode cX10_init 196 = .ok (.aload_n 0, 1) := by decide +kernel
theorem dX10_init_197 : decode cX10_init 197 = .ok (.sipush 240, 3) := by decide +kernel
theorem dX10_init_200 : decode cX10_init 200 = .ok (.newarray .long, 2) := by decide +kernel
theorem dX10_init_202 : decode cX10_init 202 = .ok (.putfield 86, 3) := by decide +kernel
theorem dX10_init_205 : decode cX10_init 205 = .ok (.aload_n 0, 1) := by decide +kernel
theorem dX10_init_206 : decode cX10_init 206 = .ok (.bipush 60, 2) := by decide +kernel
theorem dX10_init_208 : decode cX10_init 208 = .ok (.newarray .long, 2) := by decide +kernel
theorem dX10_init_210 : decode cX10_init 210 = .ok (.putfield 89, 3) := by decide +kernel
theorem dX10_init_213 : decode cX10_init 213 = .ok (.aload_n 0, 1) := by decide +kernel
theorem dX10_init_214 : decode cX10_init 214 = .ok (.getfield 13, 3) := by decide +kernel
theorem dX10_init_217 : decode cX10_init 217 = .ok (.invokestatic 92, 3) := by decide +kernel
theorem dX10_init_220 : decode cX10_init 220 = .ok (.return_, 1) := by decide +kernel
theorem dX10_empties_0 : decode cX10_empties 0 = .ok (.iconst 0, 1) := by decide +kernel
theorem dX10_empties_1 : decode cX10_empties 1 = .ok (.istore_n 1, 1) := by decide +kernel
theorem dX10_empties_2 : decode cX10_empties 2 = .ok (.iload_n 1, 1) := by decide +kernel
theorem dX10_empties_3 : decode cX10_empties 3 = .ok (.sipush 178, 3) := by decide +kernel
theorem dX10_empties_6 : decode cX10_empties 6 = .ok (.if_icmp .ge 13, 3) := by decide +kernel
theorem dX10_empties_9 : decode cX10_empties 9 = .ok (.aload_n 0, 1) := by decide +kernel
theorem dX10_empties_10 : decode cX10_empties 10 = .ok (.iload_n 1, 1) := by decide +kernel
theorem dX10_empties_11 : decode cX10_empties 11 = .ok (.iconst 0, 1) := by decide +kernel
theorem dX10_empties_12 : decode cX10_empties 12 = .ok (.iastore, 1) := by decide +kernel
theorem dX10_empties_13 : decode cX10_empties 13 = .ok (.iinc 1 1, 3) := by decide +kernel
theorem dX10_empties_16 : decode cX10_empties 16 = .ok (.goto (-14), 3) := by decide +kernel
theorem dX10_empties_19 : decode cX10_empties 19 = .ok (.aload_n 0, 1) := by decide +kernel
theorem dX10_empties_20 : decode cX10_empties 20 = .ok (.iconst 3, 1) := by decide +kernel
theorem dX10_empties_21 : decode cX10_empties 21 = .ok (.iconst 2, 1) := by decide +kernel
theorem dX10_empties_22 : decode cX10_empties 22 = .ok (.iastore, 1) := by decide +kernel
theorem dX10_empties_23 : decode cX10_empties 23 = .ok (.iconst 0, 1) := by decide +kernel
theorem dX10_empties_24 : decode cX10_empties 24 = .ok (.istore_n 1, 1) := by decide +kernel
theorem dX10_empties_25 : decode cX10_empties 25 = .ok (.iload_n 1, 1) := by decide +kernel
theorem dX10_empties_26 : decode cX10_empties 26 = .ok (.bipush 64, 2) := by decide +kernel
theorem dX10_empties_28 : decode cX10_empties 28 = .ok (.if_icmp .ge 16, 3) := by decide +kernel
theorem dX10_empties_31 : decode cX10_empties 31 = .ok (.aload_n 0, 1) := by decide +kernel
theorem dX10_empties_32 : decode cX10_empties 32 = .ok (.bipush 96, 2) := by decide +kernel
theorem dX10_empties_34 : decode cX10_empties 34 = .ok (.iload_n 1, 1) := by decide +kernel
theorem dX10_empties_35 : decode cX10_empties 35 = .ok (.iadd, 1) := by decide +kernel
theorem dX10_empties_36 : decode cX10_empties 36 = .ok (.iconst 1, 1) := by decide +kernel
theorem dX10_empties_37 : decode cX10_empties 37 = .ok (.iastore, 1) := by decide +kernel
theorem dX10_empties_38 : decode cX10_empties 38 = .ok (.iinc 1 1, 3) := by decide +kernel
theorem dX10_empties_41 : decode cX10_empties 41 = .ok (.goto (-16), 3) := by decide +kernel
theorem dX10_empties_44 : decode cX10_empties 44 = .ok (.return_, 1) := by decide +kernel
theorem dX10_keep_0 : decode cX10_keep 0 = .ok (.iload_n 1, 1) := by decide +kernel
theorem dX10_keep_1 : decode cX10_keep 1 = .ok (.i2l, 1) := by decide +kernel
theorem dX10_keep_2 : decode cX10_keep 2 = .ok (.lconst 0, 1) := by decide +kernel
theorem dX10_keep_3 : decode cX10_keep 3 = .ok (.ldc2_w 96, 3) := by decide +kernel
theorem dX10_keep_6 : decode cX10_keep 6 = .ok (.invokestatic 98, 3) := by decide +kernel
theorem dX10_keep_9 : decode cX10_keep 9 = .ok (.ifCond .ne 6, 3) := by decide +kernel
theorem dX10_keep_12 : decode cX10_keep 12 = .ok (.bipush (-2), 2) := by decide +kernel
