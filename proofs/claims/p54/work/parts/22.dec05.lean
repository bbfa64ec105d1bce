theorem dX10_liftsThen_163 : decode cX10_liftsThen 163 = .ok (.iaload, 1) := by decide +kernel
theorem dX10_liftsThen_164 : decode cX10_liftsThen 164 = .ok (.iload 6, 2) := by decide +kernel
theorem dX10_liftsThen_166 : decode cX10_liftsThen 166 = .ok (.iadd, 1) := by decide +kernel
theorem dX10_liftsThen_167 : decode cX10_liftsThen 167 = .ok (.invokevirtual 376, 3) := by decide +kernel
theorem dX10_liftsThen_170 : decode cX10_liftsThen 170 = .ok (.return_, 1) := by decide +kernel
theorem dX10_valueOf_0 : decode cX10_valueOf 0 = .ok (.iconst 0, 1) := by decide +kernel
theorem dX10_valueOf_1 : decode cX10_valueOf 1 = .ok (.istore 6, 2) := by decide +kernel
theorem dX10_valueOf_3 : decode cX10_valueOf 3 = .ok (.iload 6, 2) := by decide +kernel
theorem dX10_valueOf_5 : decode cX10_valueOf 5 = .ok (.aload_n 0, 1) := by decide +kernel
theorem dX10_valueOf_6 : decode cX10_valueOf 6 = .ok (.invokevirtual 295, 3) := by decide +kernel
theorem dX10_valueOf_9 : decode cX10_valueOf 9 = .ok (.if_icmp .ge 23, 3) := by decide +kernel
theorem dX10_valueOf_12 : decode cX10_valueOf 12 = .ok (.aload_n 0, 1) := by decide +kernel
theorem dX10_valueOf_13 : decode cX10_valueOf 13 = .ok (.getfield 50, 3) := by decide +kernel
theorem dX10_valueOf_16 : decode cX10_valueOf 16 = .ok (.iload 6, 2) := by decide +kernel
theorem dX10_valueOf_18 : decode cX10_valueOf 18 = .ok (.aload_n 0, 1) := by decide +kernel
theorem dX10_valueOf_19 : decode cX10_valueOf 19 = .ok (.getfield 47, 3) := by decide +kernel
theorem dX10_valueOf_22 : decode cX10_valueOf 22 = .ok (.iload 6, 2) := by decide +kernel
theorem dX10_valueOf_24 : decode cX10_valueOf 24 = .ok (.iaload, 1) := by decide +kernel
theorem dX10_valueOf_25 : decode cX10_valueOf 25 = .ok (.iastore, 1) := by decide +kernel
theorem dX10_valueOf_26 : decode cX10_valueOf 26 = .ok (.iinc 6 1, 3) := by decide +kernel
theorem dX10_valueOf_29 : decode cX10_valueOf 29 = .ok (.goto (-26), 3) := by decide +kernel
theorem dX10_valueOf_32 : decode cX10_valueOf 32 = .ok (.aload_n 0, 1) := by decide +kernel
theorem dX10_valueOf_33 : decode cX10_valueOf 33 = .ok (.aload_n 0, 1) := by decide +kernel
theorem dX10_valueOf_34 : decode cX10_valueOf 34 = .ok (.iload_n 1, 1) := by decide +kernel
theorem dX10_valueOf_35 : decode cX10_valueOf 35 = .ok (.iconst 1, 1) := by decide +kernel
theorem dX10_valueOf_36 : decode cX10_valueOf 36 = .ok (.invokevirtual 276, 3) := by decide +kernel
theorem dX10_valueOf_39 : decode cX10_valueOf 39 = .ok (.putfield 370, 3) := by decide +kernel
theorem dX10_valueOf_42 : decode cX10_valueOf 42 = .ok (.aload_n 0, 1) := by decide +kernel
theorem dX10_valueOf_43 : decode cX10_valueOf 43 = .ok (.aload_n 0, 1) := by decide +kernel
theorem dX10_valueOf_44 : decode cX10_valueOf 44 = .ok (.getfield 13, 3) := by decide +kernel
theorem dX10_valueOf_47 : decode cX10_valueOf 47 = .ok (.bipush 10, 2) := by decide +kernel
theorem dX10_valueOf_49 : decode cX10_valueOf 49 = .ok (.iaload, 1) := by decide +kernel
theorem dX10_valueOf_50 : decode cX10_valueOf 50 = .ok (.putfield 379, 3) := by decide +kernel
theorem dX10_valueOf_53 : decode cX10_valueOf 53 = .ok (.aload_n 0, 1) := by decide +kernel
theorem dX10_valueOf_54 : decode cX10_valueOf 54 = .ok (.getfield 50, 3) := by decide +kernel
theorem dX10_valueOf_57 : decode cX10_valueOf 57 = .ok (.iload_n 1, 1) := by decide +kernel
theorem dX10_valueOf_58 : decode cX10_valueOf 58 = .ok (.aload_n 0, 1) := by decide +kernel
theorem dX10_valueOf_59 : decode cX10_valueOf 59 = .ok (.iload_n 1, 1) := by decide +kernel
theorem dX10_valueOf_60 : decode cX10_valueOf 60 = .ok (.iconst 0, 1) := by decide +kernel
theorem dX10_valueOf_61 : decode cX10_valueOf 61 = .ok (.invokevirtual 276, 3) := by decide +kernel
theorem dX10_valueOf_64 : decode cX10_valueOf 64 = .ok (.iastore, 1) := by decide +kernel
theorem dX10_valueOf_65 : decode cX10_valueOf 65 = .ok (.aload_n 0, 1) := by decide +kernel
theorem dX10_valueOf_66 : decode cX10_valueOf 66 = .ok (.iload_n 1, 1) := by decide +kernel
theorem dX10_valueOf_67 : decode cX10_valueOf 67 = .ok (.iload_n 1, 1) := by decide +kernel
theorem dX10_valueOf_68 : decode cX10_valueOf 68 = .ok (.aload_n 0, 1) := by decide +kernel
theorem dX10_valueOf_69 : decode cX10_valueOf 69 = .ok (.iload_n 1, 1) := by decide +kernel
theorem dX10_valueOf_70 : decode cX10_valueOf 70 = .ok (.iload_n 2, 1) := by decide +kernel
theorem dX10_valueOf_71 : decode cX10_valueOf 71 = .ok (.invokevirtual 340, 3) := by decide +kernel
theorem dX10_valueOf_74 : decode cX10_valueOf 74 = .ok (.invokevirtual 376, 3) := by decide +kernel
theorem dX10_valueOf_77 : decode cX10_valueOf 77 = .ok (.aload_n 0, 1) := by decide +kernel
theorem dX10_valueOf_78 : decode cX10_valueOf 78 = .ok (.iload_n 1, 1) := by decide +kernel
theorem dX10_valueOf_79 : decode cX10_valueOf 79 = .ok (.iload_n 1, 1) := by decide +kernel
theorem dX10_valueOf_80 : decode cX10_valueOf 80 = .ok (.aload_n 0, 1) := by decide +kernel
theorem dX10_valueOf_81 : decode cX10_valueOf 81 = .ok (.getfield 50, 3) := by decide +kernel
theorem dX10_valueOf_84 : decode cX10_valueOf 84 = .ok (.iload_n 1, 1) := by decide +kernel
theorem dX10_valueOf_85 : decode cX10_valueOf 85 = .ok (.iaload, 1) := by decide +kernel
theorem dX10_valueOf_86 : decode cX10_valueOf 86 = .ok (.iload_n 3, 1) := by decide +kernel
theorem dX10_valueOf_87 : decode cX10_valueOf 87 = .ok (.isub, 1) := by decide +kernel
theorem dX10_valueOf_88 : decode cX10_valueOf 88 = .ok (.iload 4, 2) := by decide +kernel
theorem dX10_valueOf_90 : decode cX10_valueOf 90 = .ok (.isub, 1) := by decide +kernel
theorem dX10_valueOf_91 : decode cX10_valueOf 91 = .ok (.invokevirtual 376, 3) := by decide +kernel
theorem dX10_valueOf_94 : decode cX10_valueOf 94 = .ok (.iload 4, 2) := by decide +kernel
theorem dX10_valueOf_96 : decode cX10_valueOf 96 = .ok (.ifCond .le 20, 3) := by decide +kernel
theorem dX10_valueOf_99 : decode cX10_valueOf 99 = .ok (.aload_n 0, 1) := by decide +kernel
theorem dX10_valueOf_100 : decode cX10_valueOf 100 = .ok (.iload_n 1, 1) := by decide +kernel
theorem dX10_valueOf_101 : decode cX10_valueOf 101 = .ok (.iload 5, 2) := by decide +kernel
theorem dX10_valueOf_103 : decode cX10_valueOf 103 = .ok (.aload_n 0, 1) := by decide +kernel
theorem dX10_valueOf_104 : decode cX10_valueOf 104 = .ok (.getfield 50, 3) := by decide +kernel
theorem dX10_valueOf_107 : decode cX10_valueOf 107 = .ok (.iload 5, 2) := by decide +kernel
theorem dX10_valueOf_109 : decode cX10_valueOf 109 = .ok (.iaload, 1) := by decide +kernel
theorem dX10_valueOf_110 : decode cX10_valueOf 110 = .ok (.iload 4, 2) := by decide +kernel
theorem dX10_valueOf_112 : decode cX10_valueOf 112 = .ok (.iadd, 1) := by decide +kernel
theorem dX10_valueOf_113 : decode cX10_valueOf 113 = .ok (.invokevirtual 376, 3) := by decide +kernel
theorem dX10_valueOf_116 : decode cX10_valueOf 116 = .ok (.aload_n 0, 1) := by decide +kernel
theorem dX10_valueOf_117 : decode cX10_valueOf 117 = .ok (.getfield 13, 3) := by decide +kernel
theorem dX10_valueOf_120 : decode cX10_valueOf 120 = .ok (.bipush 13, 2) := by decide +kernel
theorem dX10_valueOf_122 : decode cX10_valueOf 122 = .ok (.iaload, 1) := by decide +kernel
theorem dX10_valueOf_123 : decode cX10_valueOf 123 = .ok (.ifCond .ne 8, 3) := by decide +kernel
theorem dX10_valueOf_126 : decode cX10_valueOf 126 = .ok (.aload_n 0, 1) := by decide +kernel
theorem dX10_valueOf_127 : decode cX10_valueOf 127 = .ok (.iload_n 1, 1) := by decide +kernel
theorem dX10_valueOf_128 : decode cX10_valueOf 128 = .ok (.invokevirtual 385, 3) := by decide +kernel
theorem dX10_valueOf_131 : decode cX10_valueOf 131 = .ok (.aload_n 0, 1) := by decide +kernel
theorem dX10_valueOf_132 : decode cX10_valueOf 132 = .ok (.iload_n 1, 1) := by decide +kernel
theorem dX10_valueOf_133 : decode cX10_valueOf 133 = .ok (.bipush 7, 2) := by decide +kernel
theorem dX10_valueOf_135 : decode cX10_valueOf 135 = .ok (.invokevirtual 276, 3) := by decide +kernel
theorem dX10_valueOf_138 : decode cX10_valueOf 138 = .ok (.aload_n 0, 1) := by decide +kernel
theorem dX10_valueOf_139 : decode cX10_valueOf 139 = .ok (.getfield 50, 3) := by decide +kernel
theorem dX10_valueOf_142 : decode cX10_valueOf 142 = .ok (.iload_n 1, 1) := by decide +kernel
theorem dX10_valueOf_143 : decode cX10_valueOf 143 = .ok (.iaload, 1) := by decide +kernel
theorem dX10_valueOf_144 : decode cX10_valueOf 144 = .ok (.imul, 1) := by decide +kernel
theorem dX10_valueOf_145 : decode cX10_valueOf 145 = .ok (.aload_n 0, 1) := by decide +kernel
theorem dX10_valueOf_146 : decode cX10_valueOf 146 = .ok (.iload_n 1, 1) := by decide +kernel
theorem dX10_valueOf_147 : decode cX10_valueOf 147 = .ok (.iload_n 3, 1) := by decide +kernel
theorem dX10_valueOf_148 : decode cX10_valueOf 148 = .ok (.invokevirtual 351, 3) := by decide +kernel
theorem dX10_valueOf_151 : decode cX10_valueOf 151 = .ok (.iadd, 1) := by decide +kernel
theorem dX10_valueOf_152 : decode cX10_valueOf 152 = .ok (.iload_n 2, 1) := by decide +kernel
theorem dX10_valueOf_153 : decode cX10_valueOf 153 = .ok (.aload_n 0, 1) := by decide +kernel
theorem dX10_valueOf_154 : decode cX10_valueOf 154 = .ok (.iload_n 1, 1) := by decide +kernel
theorem dX10_valueOf_155 : decode cX10_valueOf 155 = .ok (.bipush 6, 2) := by decide +kernel
theorem dX10_valueOf_157 : decode cX10_valueOf 157 = .ok (.invokevirtual 276, 3) := by decide +kernel
theorem dX10_valueOf_160 : decode cX10_valueOf 160 = .ok (.imul, 1) := by decide +kernel
theorem dX10_valueOf_161 : decode cX10_valueOf 161 = .ok (.isub, 1) := by decide +kernel
theorem dX10_valueOf_162 : decode cX10_valueOf 162 = .ok (.ireturn, 1) := by decide +kernel
theorem dX10_value_0 : decode cX10_value 0 = .ok (.aload_n 0, 1) := by decide +kernel
theorem dX10_value_1 : decode cX10_value 1 = .ok (.iload_n 1, 1) := by decide +kernel
theorem dX10_value_2 : decode cX10_value 2 = .ok (.iload_n 2, 1) := by decide +kernel
theorem dX10_value_3 : decode cX10_value 3 = .ok (.iload_n 3, 1) := by decide +kernel
theorem dX10_value_4 : decode cX10_value 4 = .ok (.iload 4, 2) := by decide +kernel
theorem dX10_value_6 : decode cX10_value 6 = .ok (.iload 5, 2) := by decide +kernel
theorem dX10_value_8 : decode cX10_value 8 = .ok (.invokevirtual 343, 3) := by decide +kernel
theorem dX10_value_11 : decode cX10_value 11 = .ok (.ifCond .ge 7, 3) := by decide +kernel
theorem dX10_value_14 : decode cX10_value 14 = .ok (.ldc_w 388, 3) := by decide +kernel
theorem dX10_value_17 : decode cX10_value 17 = .ok (.ireturn, 1) := by decide +kernel
theorem dX10_value_18 : decode cX10_value 18 = .ok (.aload_n 0, 1) := by decide +kernel
theorem dX10_value_19 : decode cX10_value 19 = .ok (.iload_n 1, 1) := by decide +kernel
theorem dX10_value_20 : decode cX10_value 20 = .ok (.invokevirtual 389, 3) := by decide +kernel
theorem dX10_value_23 : decode cX10_value 23 = .ok (.aload_n 0, 1) := by decide +kernel
theorem dX10_value_24 : decode cX10_value 24 = .ok (.iload_n 1, 1) := by decide +kernel
theorem dX10_value_25 : decode cX10_value 25 = .ok (.iload_n 2, 1) := by decide +kernel
theorem dX10_value_26 : decode cX10_value 26 = .ok (.iload_n 3, 1) := by decide +kernel
theorem dX10_value_27 : decode cX10_value 27 = .ok (.iload 4, 2) := by decide +kernel
theorem dX10_value_29 : decode cX10_value 29 = .ok (.iload 5, 2) := by decide +kernel
theorem dX10_value_31 : decode cX10_value 31 = .ok (.invokevirtual 392, 3) := by decide +kernel
theorem dX10_value_34 : decode cX10_value 34 = .ok (.ireturn, 1) := by decide +kernel
theorem dX10_tries_0 : decode cX10_tries 0 = .ok (.aload_n 0, 1) := by decide +kernel
theorem dX10_tries_1 : decode cX10_tries 1 = .ok (.iload_n 1, 1) := by decide +kernel
theorem dX10_tries_2 : decode cX10_tries 2 = .ok (.iload_n 2, 1) := by decide +kernel
theorem dX10_tries_3 : decode cX10_tries 3 = .ok (.iload_n 3, 1) := by decide +kernel
theorem dX10_tries_4 : decode cX10_tries 4 = .ok (.iload 4, 2) := by decide +kernel
theorem dX10_tries_6 : decode cX10_tries 6 = .ok (.iload 5, 2) := by decide +kernel
theorem dX10_tries_8 : decode cX10_tries 8 = .ok (.invokevirtual 392, 3) := by decide +kernel
theorem dX10_tries_11 : decode cX10_tries 11 = .ok (.istore 6, 2) := by decide +kernel
theorem dX10_tries_13 : decode cX10_tries 13 = .ok (.iload 6, 2) := by decide +kernel
theorem dX10_tries_15 : decode cX10_tries 15 = .ok (.aload_n 0, 1) := by decide +kernel
theorem dX10_tries_16 : decode cX10_tries 16 = .ok (.getfield 53, 3) := by decide +kernel
theorem dX10_tries_19 : decode cX10_tries 19 = .ok (.iconst 0, 1) := by decide +kernel
theorem dX10_tries_20 : decode cX10_tries 20 = .ok (.iaload, 1) := by decide +kernel
theorem dX10_tries_21 : decode cX10_tries 21 = .ok (.if_icmp .gt 4, 3) := by decide +kernel
theorem dX10_tries_24 : decode cX10_tries 24 = .ok (.return_, 1) := by decide +kernel
theorem dX10_tries_25 : decode cX10_tries 25 = .ok (.aload_n 0, 1) := by decide +kernel
theorem dX10_tries_26 : decode cX10_tries 26 = .ok (.getfield 53, 3) := by decide +kernel
theorem dX10_tries_29 : decode cX10_tries 29 = .ok (.iconst 0, 1) := by decide +kernel
theorem dX10_tries_30 : decode cX10_tries 30 = .ok (.iload 6, 2) := by decide +kernel
theorem dX10_tries_32 : decode cX10_tries 32 = .ok (.iastore, 1) := by decide +kernel
theorem dX10_tries_33 : decode cX10_tries 33 = .ok (.aload_n 0, 1) := by decide +kernel
theorem dX10_tries_34 : decode cX10_tries 34 = .ok (.getfield 53, 3) := by decide +kernel
theorem dX10_tries_37 : decode cX10_tries 37 = .ok (.iconst 1, 1) := by decide +kernel
theorem dX10_tries_38 : decode cX10_tries 38 = .ok (.iload_n 2, 1) := by decide +kernel
theorem dX10_tries_39 : decode cX10_tries 39 = .ok (.iastore, 1) := by decide +kernel
theorem dX10_tries_40 : decode cX10_tries 40 = .ok (.aload_n 0, 1) := by decide +kernel
theorem dX10_tries_41 : decode cX10_tries 41 = .ok (.getfield 53, 3) := by decide +kernel
theorem dX10_tries_44 : decode cX10_tries 44 = .ok (.iconst 2, 1) := by decide +kernel
theorem dX10_tries_45 : decode cX10_tries 45 = .ok (.iload_n 3, 1) := by decide +kernel
theorem dX10_tries_46 : decode cX10_tries 46 = .ok (.iastore, 1) := by decide +kernel
theorem dX10_tries_47 : decode cX10_tries 47 = .ok (.aload_n 0, 1) := by decide +kernel
theorem dX10_tries_48 : decode cX10_tries 48 = .ok (.getfield 53, 3) := by decide +kernel
theorem dX10_tries_51 : decode cX10_tries 51 = .ok (.iconst 3, 1) := by decide +kernel
theorem dX10_tries_52 : decode cX10_tries 52 = .ok (.iload 4, 2) := by decide +kernel
theorem dX10_tries_54 : decode cX10_tries 54 = .ok (.iastore, 1) := by decide +kernel
theorem dX10_tries_55 : decode cX10_tries 55 = .ok (.aload_n 0, 1) := by decide +kernel
theorem dX10_tries_56 : decode cX10_tries 56 = .ok (.getfield 53, 3) := by decide +kernel
theorem dX10_tries_59 : decode cX10_tries 59 = .ok (.iconst 4, 1) := by decide +kernel
theorem dX10_tries_60 : decode cX10_tries 60 = .ok (.iload 5, 2) := by decide +kernel
theorem dX10_tries_62 : decode cX10_tries 62 = .ok (.iastore, 1) := by decide +kernel
theorem dX10_tries_63 : decode cX10_tries 63 = .ok (.return_, 1) := by decide +kernel
theorem dX10_findsBest_0 : decode cX10_findsBest 0 = .ok (.aload_n 0, 1) := by decide +kernel
theorem dX10_findsBest_1 : decode cX10_findsBest 1 = .ok (.getfield 53, 3) := by decide +kernel
theorem dX10_findsBest_4 : decode cX10_findsBest 4 = .ok (.iconst 0, 1) := by decide +kernel
theorem dX10_findsBest_5 : decode cX10_findsBest 5 = .ok (.ldc_w 388, 3) := by decide +kernel
theorem dX10_findsBest_8 : decode cX10_findsBest 8 = .ok (.iastore, 1) := by decide +kernel
theorem dX10_findsBest_9 : decode cX10_findsBest 9 = .ok (.iload_n 2, 1) := by decide +kernel
theorem dX10_findsBest_10 : decode cX10_findsBest 10 = .ok (.istore_n 3, 1) := by decide +kernel
theorem dX10_findsBest_11 : decode cX10_findsBest 11 = .ok (.iload_n 3, 1) := by decide +kernel
theorem dX10_findsBest_12 : decode cX10_findsBest 12 = .ok (.ifCond .lt 98, 3) := by decide +kernel
theorem dX10_findsBest_15 : decode cX10_findsBest 15 = .ok (.aload_n 0, 1) := by decide +kernel
theorem dX10_findsBest_16 : decode cX10_findsBest 16 = .ok (.iload_n 1, 1) := by decide +kernel
theorem dX10_findsBest_17 : decode cX10_findsBest 17 = .ok (.iload_n 3, 1) := by decide +kernel
theorem dX10_findsBest_18 : decode cX10_findsBest 18 = .ok (.invokevirtual 340, 3) := by decide +kernel
theorem dX10_findsBest_21 : decode cX10_findsBest 21 = .ok (.istore 4, 2) := by decide +kernel
theorem dX10_findsBest_23 : decode cX10_findsBest 23 = .ok (.iconst 0, 1) := by decide +kernel
theorem dX10_findsBest_24 : decode cX10_findsBest 24 = .ok (.istore 5, 2) := by decide +kernel
theorem dX10_findsBest_26 : decode cX10_findsBest 26 = .ok (.iload 5, 2) := by decide +kernel
theorem dX10_findsBest_28 : decode cX10_findsBest 28 = .ok (.iload 4, 2) := by decide +kernel
theorem dX10_findsBest_30 : decode cX10_findsBest 30 = .ok (.if_icmp .gt 74, 3) := by decide +kernel
theorem dX10_findsBest_33 : decode cX10_findsBest 33 = .ok (.aload_n 0, 1) := by decide +kernel
theorem dX10_findsBest_34 : decode cX10_findsBest 34 = .ok (.iload_n 1, 1) := by decide +kernel
theorem dX10_findsBest_35 : decode cX10_findsBest 35 = .ok (.iload_n 3, 1) := by decide +kernel
theorem dX10_findsBest_36 : decode cX10_findsBest 36 = .ok (.iload 5, 2) := by decide +kernel
theorem dX10_findsBest_38 : decode cX10_findsBest 38 = .ok (.iconst 0, 1) := by decide +kernel
theorem dX10_findsBest_39 : decode cX10_findsBest 39 = .ok (.iconst (-1), 1) := by decide +kernel
theorem dX10_findsBest_40 : decode cX10_findsBest 40 = .ok (.invokevirtual 395, 3) := by decide +kernel
theorem dX10_findsBest_43 : decode cX10_findsBest 43 = .ok (.iconst 1, 1) := by decide +kernel
theorem dX10_findsBest_44 : decode cX10_findsBest 44 = .ok (.istore 6, 2) := by decide +kernel
theorem dX10_findsBest_46 : decode cX10_findsBest 46 = .ok (.iload 6, 2) := by decide +kernel
theorem dX10_findsBest_48 : decode cX10_findsBest 48 = .ok (.iload 4, 2) := by decide +kernel
theorem dX10_findsBest_50 : decode cX10_findsBest 50 = .ok (.iload 5, 2) := by decide +kernel
theorem dX10_findsBest_52 : decode cX10_findsBest 52 = .ok (.isub, 1) := by decide +kernel
theorem dX10_findsBest_53 : decode cX10_findsBest 53 = .ok (.if_icmp .gt 45, 3) := by decide +kernel
theorem dX10_findsBest_56 : decode cX10_findsBest 56 = .ok (.iconst 0, 1) := by decide +kernel
theorem dX10_findsBest_57 : decode cX10_findsBest 57 = .ok (.istore 7, 2) := by decide +kernel
theorem dX10_findsBest_59 : decode cX10_findsBest 59 = .ok (.iload 7, 2) := by decide +kernel
theorem dX10_findsBest_61 : decode cX10_findsBest 61 = .ok (.aload_n 0, 1) := by decide +kernel
theorem dX10_findsBest_62 : decode cX10_findsBest 62 = .ok (.invokevirtual 295, 3) := by decide +kernel
theorem dX10_findsBest_65 : decode cX10_findsBest 65 = .ok (.if_icmp .ge 27, 3) := by decide +kernel
theorem dX10_findsBest_68 : decode cX10_findsBest 68 = .ok (.iload 7, 2) := by decide +kernel
theorem dX10_findsBest_70 : decode cX10_findsBest 70 = .ok (.iload_n 1, 1) := by decide +kernel
theorem dX10_findsBest_71 : decode cX10_findsBest 71 = .ok (.if_icmp .eq 15, 3) := by decide +kernel
theorem dX10_findsBest_74 : decode cX10_findsBest 74 = .ok (.aload_n 0, 1) := by decide +kernel
theorem dX10_findsBest_75 : decode cX10_findsBest 75 = .ok (.iload_n 1, 1) := by decide +kernel
theorem dX10_findsBest_76 : decode cX10_findsBest 76 = .ok (.iload_n 3, 1) := by decide +kernel
theorem dX10_findsBest_77 : decode cX10_findsBest 77 = .ok (.iload 5, 2) := by decide +kernel
theorem dX10_findsBest_79 : decode cX10_findsBest 79 = .ok (.iload 6, 2) := by decide +kernel
theorem dX10_findsBest_81 : decode cX10_findsBest 81 = .ok (.iload 7, 2) := by decide +kernel
theorem dX10_findsBest_83 : decode cX10_findsBest 83 = .ok (.invokevirtual 395, 3) := by decide +kernel
theorem dX10_findsBest_86 : decode cX10_findsBest 86 = .ok (.iinc 7 1, 3) := by decide +kernel
theorem dX10_findsBest_89 : decode cX10_findsBest 89 = .ok (.goto (-30), 3) := by decide +kernel
theorem dX10_findsBest_92 : decode cX10_findsBest 92 = .ok (.iinc 6 1, 3) := by decide +kernel
theorem dX10_findsBest_95 : decode cX10_findsBest 95 = .ok (.goto (-49), 3) := by decide +kernel
theorem dX10_findsBest_98 : decode cX10_findsBest 98 = .ok (.iinc 5 1, 3) := by decide +kernel
theorem dX10_findsBest_101 : decode cX10_findsBest 101 = .ok (.goto (-75), 3) := by decide +kernel
theorem dX10_findsBest_104 : decode cX10_findsBest 104 = .ok (.iinc 3 (-1), 3) := by decide +kernel
theorem dX10_findsBest_107 : decode cX10_findsBest 107 = .ok (.goto (-96), 3) := by decide +kernel
theorem dX10_findsBest_110 : decode cX10_findsBest 110 = .ok (.return_, 1) := by decide +kernel
theorem dX10_best_0 : decode cX10_best 0 = .ok (.iload_n 2, 1) := by decide +kernel
theorem dX10_best_1 : decode cX10_best 1 = .ok (.i2l, 1) := by decide +kernel
theorem dX10_best_2 : decode cX10_best 2 = .ok (.lconst 0, 1) := by decide +kernel
theorem dX10_best_3 : decode cX10_best 3 = .ok (.ldc2_w 398, 3) := by decide +kernel
theorem dX10_best_6 : decode cX10_best 6 = .ok (.invokestatic 98, 3) := by decide +kernel
theorem dX10_best_9 : decode cX10_best 9 = .ok (.ifCond .ne 6, 3) := by decide +kernel
theorem dX10_best_12 : decode cX10_best 12 = .ok (.bipush (-2), 2) := by decide +kernel
theorem dX10_best_14 : decode cX10_best 14 = .ok (.ireturn, 1) := by decide +kernel
theorem dX10_best_15 : decode cX10_best 15 = .ok (.aload_n 0, 1) := by decide +kernel
theorem dX10_best_16 : decode cX10_best 16 = .ok (.iload_n 1, 1) := by decide +kernel
theorem dX10_best_17 : decode cX10_best 17 = .ok (.invokevirtual 106, 3) := by decide +kernel
theorem dX10_best_20 : decode cX10_best 20 = .ok (.ifCond .ne 16, 3) := by decide +kernel
theorem dX10_best_23 : decode cX10_best 23 = .ok (.iload_n 2, 1) := by decide +kernel
theorem dX10_best_24 : decode cX10_best 24 = .ok (.ifCond .ne 9, 3) := by decide +kernel
theorem dX10_best_27 : decode cX10_best 27 = .ok (.ldc_w 388, 3) := by decide +kernel
theorem dX10_best_30 : decode cX10_best 30 = .ok (.goto 5, 3) := by decide +kernel
theorem dX10_best_33 : decode cX10_best 33 = .ok (.bipush (-2), 2) := by decide +kernel
theorem dX10_best_35 : decode cX10_best 35 = .ok (.ireturn, 1) := by decide +kernel
theorem dX10_best_36 : decode cX10_best 36 = .ok (.aload_n 0, 1) := by decide +kernel
theorem dX10_best_37 : decode cX10_best 37 = .ok (.iload_n 1, 1) := by decide +kernel
theorem dX10_best_38 : decode cX10_best 38 = .ok (.invokevirtual 389, 3) := by decide +kernel
theorem dX10_best_41 : decode cX10_best 41 = .ok (.aload_n 0, 1) := by decide +kernel
theorem dX10_best_42 : decode cX10_best 42 = .ok (.iload_n 1, 1) := by decide +kernel
theorem dX10_best_43 : decode cX10_best 43 = .ok (.iconst 1, 1) := by decide +kernel
theorem dX10_best_44 : decode cX10_best 44 = .ok (.invokevirtual 400, 3) := by decide +kernel
theorem dX10_best_47 : decode cX10_best 47 = .ok (.aload_n 0, 1) := by decide +kernel
theorem dX10_best_48 : decode cX10_best 48 = .ok (.getfield 53, 3) := by decide +kernel
theorem dX10_best_51 : decode cX10_best 51 = .ok (.iload_n 2, 1) := by decide +kernel
theorem dX10_best_52 : decode cX10_best 52 = .ok (.iaload, 1) := by decide +kernel
theorem dX10_best_53 : decode cX10_best 53 = .ok (.ireturn, 1) := by decide +kernel
theorem dX10_losesBy_0 : decode cX10_losesBy 0 = .ok (.aload_n 0, 1) := by decide +kernel
theorem dX10_losesBy_1 : decode cX10_losesBy 1 = .ok (.invokevirtual 360, 3) := by decide +kernel
theorem dX10_losesBy_4 : decode cX10_losesBy 4 = .ok (.aload_n 0, 1) := by decide +kernel
theorem dX10_losesBy_5 : decode cX10_losesBy 5 = .ok (.iload_n 1, 1) := by decide +kernel
theorem dX10_losesBy_6 : decode cX10_losesBy 6 = .ok (.aload_n 0, 1) := by decide +kernel
theorem dX10_losesBy_7 : decode cX10_losesBy 7 = .ok (.iload_n 1, 1) := by decide +kernel
theorem dX10_losesBy_8 : decode cX10_losesBy 8 = .ok (.iconst 0, 1) := by decide +kernel
theorem dX10_losesBy_9 : decode cX10_losesBy 9 = .ok (.invokevirtual 276, 3) := by decide +kernel
theorem dX10_losesBy_12 : decode cX10_losesBy 12 = .ok (.iload_n 3, 1) := by decide +kernel
theorem dX10_losesBy_13 : decode cX10_losesBy 13 = .ok (.isub, 1) := by decide +kernel
theorem dX10_losesBy_14 : decode cX10_losesBy 14 = .ok (.invokevirtual 284, 3) := by decide +kernel
theorem dX10_losesBy_17 : decode cX10_losesBy 17 = .ok (.aload_n 0, 1) := by decide +kernel
theorem dX10_losesBy_18 : decode cX10_losesBy 18 = .ok (.iload_n 2, 1) := by decide +kernel
theorem dX10_losesBy_19 : decode cX10_losesBy 19 = .ok (.aload_n 0, 1) := by decide +kernel
theorem dX10_losesBy_20 : decode cX10_losesBy 20 = .ok (.iload_n 2, 1) := by decide +kernel
theorem dX10_losesBy_21 : decode cX10_losesBy 21 = .ok (.iconst 0, 1) := by decide +kernel
theorem dX10_losesBy_22 : decode cX10_losesBy 22 = .ok (.invokevirtual 276, 3) := by decide +kernel
theorem dX10_losesBy_25 : decode cX10_losesBy 25 = .ok (.iload_n 3, 1) := by decide +kernel
theorem dX10_losesBy_26 : decode cX10_losesBy 26 = .ok (.iadd, 1) := by decide +kernel
theorem dX10_losesBy_27 : decode cX10_losesBy 27 = .ok (.invokevirtual 284, 3) := by decide +kernel
theorem dX10_losesBy_30 : decode cX10_losesBy 30 = .ok (.aload_n 0, 1) := by decide +kernel
theorem dX10_losesBy_31 : decode cX10_losesBy 31 = .ok (.iload 4, 2) := by decide +kernel
theorem dX10_losesBy_33 : decode cX10_losesBy 33 = .ok (.invokevirtual 316, 3) := by decide +kernel
theorem dX10_losesBy_36 : decode cX10_losesBy 36 = .ok (.ifCond .le 7, 3) := by decide +kernel
theorem dX10_losesBy_39 : decode cX10_losesBy 39 = .ok (.iconst 1, 1) := by decide +kernel
theorem dX10_losesBy_40 : decode cX10_losesBy 40 = .ok (.goto 4, 3) := by decide +kernel
theorem dX10_losesBy_43 : decode cX10_losesBy 43 = .ok (.iconst 0, 1) := by decide +kernel
theorem dX10_losesBy_44 : decode cX10_losesBy 44 = .ok (.istore 5, 2) := by decide +kernel
theorem dX10_losesBy_46 : decode cX10_losesBy 46 = .ok (.aload_n 0, 1) := by decide +kernel
theorem dX10_losesBy_47 : decode cX10_losesBy 47 = .ok (.invokevirtual 367, 3) := by decide +kernel
theorem dX10_losesBy_50 : decode cX10_losesBy 50 = .ok (.iload 5, 2) := by decide +kernel
theorem dX10_losesBy_52 : decode cX10_losesBy 52 = .ok (.ireturn, 1) := by decide +kernel
theorem dX10_giftOf_0 : decode cX10_giftOf 0 = .ok (.iconst 0, 1) := by decide +kernel
theorem dX10_giftOf_1 : decode cX10_giftOf 1 = .ok (.istore_n 3, 1) := by decide +kernel
theorem dX10_giftOf_2 : decode cX10_giftOf 2 = .ok (.iload_n 3, 1) := by decide +kernel
theorem dX10_giftOf_3 : decode cX10_giftOf 3 = .ok (.aload_n 0, 1) := by decide +kernel
theorem dX10_giftOf_4 : decode cX10_giftOf 4 = .ok (.iload_n 1, 1) := by decide +kernel
theorem dX10_giftOf_5 : decode cX10_giftOf 5 = .ok (.iconst 0, 1) := by decide +kernel
theorem dX10_giftOf_6 : decode cX10_giftOf 6 = .ok (.invokevirtual 276, 3) := by decide +kernel
theorem dX10_giftOf_9 : decode cX10_giftOf 9 = .ok (.if_icmp .gt 22, 3) := by decide +kernel
theorem dX10_giftOf_12 : decode cX10_giftOf 12 = .ok (.aload_n 0, 1) := by decide +kernel
theorem dX10_giftOf_13 : decode cX10_giftOf 13 = .ok (.iload_n 1, 1) := by decide +kernel
theorem dX10_giftOf_14 : decode cX10_giftOf 14 = .ok (.iload_n 2, 1) := by decide +kernel
theorem dX10_giftOf_15 : decode cX10_giftOf 15 = .ok (.iload_n 3, 1) := by decide +kernel
theorem dX10_giftOf_16 : decode cX10_giftOf 16 = .ok (.iload_n 1, 1) := by decide +kernel
theorem dX10_giftOf_17 : decode cX10_giftOf 17 = .ok (.invokevirtual 403, 3) := by decide +kernel
theorem dX10_giftOf_20 : decode cX10_giftOf 20 = .ok (.ifCond .ne 5, 3) := by decide +kernel
theorem dX10_giftOf_23 : decode cX10_giftOf 23 = .ok (.iload_n 3, 1) := by decide +kernel
theorem dX10_giftOf_24 : decode cX10_giftOf 24 = .ok (.ireturn, 1) := by decide +kernel
theorem dX10_giftOf_25 : decode cX10_giftOf 25 = .ok (.iinc 3 1, 3) := by decide +kernel
theorem dX10_giftOf_28 : decode cX10_giftOf 28 = .ok (.goto (-26), 3) := by decide +kernel
theorem dX10_giftOf_31 : decode cX10_giftOf 31 = .ok (.iconst (-1), 1) := by decide +kernel
theorem dX10_giftOf_32 : decode cX10_giftOf 32 = .ok (.ireturn, 1) := by decide +kernel
theorem dX10_gift_0 : decode cX10_gift 0 = .ok (.aload_n 0, 1) := by decide +kernel
theorem dX10_gift_1 : decode cX10_gift 1 = .ok (.iload_n 1, 1) := by decide +kernel
theorem dX10_gift_2 : decode cX10_gift 2 = .ok (.iload_n 2, 1) := by decide +kernel
theorem dX10_gift_3 : decode cX10_gift 3 = .ok (.invokevirtual 289, 3) := by decide +kernel
theorem dX10_gift_6 : decode cX10_gift 6 = .ok (.ifCond .eq 12, 3) := by decide +kernel
theorem dX10_gift_9 : decode cX10_gift 9 = .ok (.aload_n 0, 1) := by decide +kernel
theorem dX10_gift_10 : decode cX10_gift 10 = .ok (.iload_n 1, 1) := by decide +kernel
theorem dX10_gift_11 : decode cX10_gift 11 = .ok (.iload_n 2, 1) := by decide +kernel
theorem dX10_gift_12 : decode cX10_gift 12 = .ok (.invokevirtual 407, 3) := by decide +kernel
theorem dX10_gift_15 : decode cX10_gift 15 = .ok (.goto 5, 3) := by decide +kernel
theorem dX10_gift_18 : decode cX10_gift 18 = .ok (.bipush (-2), 2) := by decide +kernel
theorem dX10_gift_20 : decode cX10_gift 20 = .ok (.ireturn, 1) := by decide +kernel
theorem dX10_gifts_0 : decode cX10_gifts 0 = .ok (.aload_n 0, 1) := by decide +kernel
theorem dX10_gifts_1 : decode cX10_gifts 1 = .ok (.iload_n 1, 1) := by decide +kernel
theorem dX10_gifts_2 : decode cX10_gifts 2 = .ok (.invokevirtual 106, 3) := by decide +kernel
theorem dX10_gifts_5 : decode cX10_gifts 5 = .ok (.ifCond .ne 6, 3) := by decide +kernel
theorem dX10_gifts_8 : decode cX10_gifts 8 = .ok (.bipush (-2), 2) := by decide +kernel
theorem dX10_gifts_10 : decode cX10_gifts 10 = .ok (.ireturn, 1) := by decide +kernel
theorem dX10_gifts_11 : decode cX10_gifts 11 = .ok (.iconst (-1), 1) := by decide +kernel
theorem dX10_gifts_12 : decode cX10_gifts 12 = .ok (.istore_n 2, 1) := by decide +kernel
theorem dX10_gifts_13 : decode cX10_gifts 13 = .ok (.iconst 0, 1) := by decide +kernel
theorem dX10_gifts_14 : decode cX10_gifts 14 = .ok (.istore_n 3, 1) := by decide +kernel
theorem dX10_gifts_15 : decode cX10_gifts 15 = .ok (.iconst 0, 1) := by decide +kernel
theorem dX10_gifts_16 : decode cX10_gifts 16 = .ok (.istore 4, 2) := by decide +kernel
theorem dX10_gifts_18 : decode cX10_gifts 18 = .ok (.iload 4, 2) := by decide +kernel
theorem dX10_gifts_20 : decode cX10_gifts 20 = .ok (.aload_n 0, 1) := by decide +kernel
theorem dX10_gifts_21 : decode cX10_gifts 21 = .ok (.invokevirtual 295, 3) := by decide +kernel
theorem dX10_gifts_24 : decode cX10_gifts 24 = .ok (.if_icmp .ge 54, 3) := by decide +kernel
theorem dX10_gifts_27 : decode cX10_gifts 27 = .ok (.iload 4, 2) := by decide +kernel
theorem dX10_gifts_29 : decode cX10_gifts 29 = .ok (.iload_n 1, 1) := by decide +kernel
theorem dX10_gifts_30 : decode cX10_gifts 30 = .ok (.if_icmp .ne 7, 3) := by decide +kernel
theorem dX10_gifts_33 : decode cX10_gifts 33 = .ok (.iconst (-1), 1) := by decide +kernel
theorem dX10_gifts_34 : decode cX10_gifts 34 = .ok (.goto 10, 3) := by decide +kernel
theorem dX10_gifts_37 : decode cX10_gifts 37 = .ok (.aload_n 0, 1) := by decide +kernel
theorem dX10_gifts_38 : decode cX10_gifts 38 = .ok (.iload_n 1, 1) := by decide +kernel
theorem dX10_gifts_39 : decode cX10_gifts 39 = .ok (.iload 4, 2) := by decide +kernel
theorem dX10_gifts_41 : decode cX10_gifts 41 = .ok (.invokevirtual 407, 3) := by decide +kernel
theorem dX10_gifts_44 : decode cX10_gifts 44 = .ok (.istore 5, 2) := by decide +kernel
theorem dX10_gifts_46 : decode cX10_gifts 46 = .ok (.iload 5, 2) := by decide +kernel
theorem dX10_gifts_48 : decode cX10_gifts 48 = .ok (.iconst (-1), 1) := by decide +kernel
theorem dX10_gifts_49 : decode cX10_gifts 49 = .ok (.if_icmp .eq 23, 3) := by decide +kernel
theorem dX10_gifts_52 : decode cX10_gifts 52 = .ok (.iload_n 2, 1) := by decide +kernel
theorem dX10_gifts_53 : decode cX10_gifts 53 = .ok (.iconst (-1), 1) := by decide +kernel
theorem dX10_gifts_54 : decode cX10_gifts 54 = .ok (.if_icmp .eq 12, 3) := by decide +kernel
theorem dX10_gifts_57 : decode cX10_gifts 57 = .ok (.iload 5, 2) := by decide +kernel
theorem dX10_gifts_59 : decode cX10_gifts 59 = .ok (.iload_n 3, 1) := by decide +kernel
theorem dX10_gifts_60 : decode cX10_gifts 60 = .ok (.if_icmp .lt 6, 3) := by decide +kernel
theorem dX10_gifts_63 : decode cX10_gifts 63 = .ok (.goto 9, 3) := by decide +kernel
theorem dX10_gifts_66 : decode cX10_gifts 66 = .ok (.iload 4, 2) := by decide +kernel
theorem dX10_gifts_68 : decode cX10_gifts 68 = .ok (.istore_n 2, 1) := by decide +kernel
theorem dX10_gifts_69 : decode cX10_gifts 69 = .ok (.iload 5, 2) := by decide +kernel
theorem dX10_gifts_71 : decode cX10_gifts 71 = .ok (.istore_n 3, 1) := by decide +kernel
theorem dX10_gifts_72 : decode cX10_gifts 72 = .ok (.iinc 4 1, 3) := by decide +kernel
theorem dX10_gifts_75 : decode cX10_gifts 75 = .ok (.goto (-57), 3) := by decide +kernel
theorem dX10_gifts_78 : decode cX10_gifts 78 = .ok (.iload_n 2, 1) := by decide +kernel
theorem dX10_gifts_79 : decode cX10_gifts 79 = .ok (.ireturn, 1) := by decide +kernel
theorem dX10_breakOf_0 : decode cX10_breakOf 0 = .ok (.iconst 0, 1) := by decide +kernel
theorem dX10_breakOf_1 : decode cX10_breakOf 1 = .ok (.istore_n 3, 1) := by decide +kernel
theorem dX10_breakOf_2 : decode cX10_breakOf 2 = .ok (.iload_n 3, 1) := by decide +kernel
theorem dX10_breakOf_3 : decode cX10_breakOf 3 = .ok (.aload_n 0, 1) := by decide +kernel
theorem dX10_breakOf_4 : decode cX10_breakOf 4 = .ok (.iload_n 1, 1) := by decide +kernel
theorem dX10_breakOf_5 : decode cX10_breakOf 5 = .ok (.iconst 0, 1) := by decide +kernel
theorem dX10_breakOf_6 : decode cX10_breakOf 6 = .ok (.invokevirtual 276, 3) := by decide +kernel
theorem dX10_breakOf_9 : decode cX10_breakOf 9 = .ok (.if_icmp .gt 22, 3) := by decide +kernel
theorem dX10_breakOf_12 : decode cX10_breakOf 12 = .ok (.aload_n 0, 1) := by decide +kernel
theorem dX10_breakOf_13 : decode cX10_breakOf 13 = .ok (.iload_n 1, 1) := by decide +kernel
theorem dX10_breakOf_14 : decode cX10_breakOf 14 = .ok (.iload_n 2, 1) := by decide +kernel
theorem dX10_breakOf_15 : decode cX10_breakOf 15 = .ok (.iload_n 3, 1) := by decide +kernel
theorem dX10_breakOf_16 : decode cX10_breakOf 16 = .ok (.iload_n 2, 1) := by decide +kernel
theorem dX10_breakOf_17 : decode cX10_breakOf 17 = .ok (.invokevirtual 403, 3) := by decide +kernel
theorem dX10_breakOf_20 : decode cX10_breakOf 20 = .ok (.ifCond .eq 5, 3) := by decide +kernel
theorem dX10_breakOf_23 : decode cX10_breakOf 23 = .ok (.iload_n 3, 1) := by decide +kernel
theorem dX10_breakOf_24 : decode cX10_breakOf 24 = .ok (.ireturn, 1) := by decide +kernel
theorem dX10_breakOf_25 : decode cX10_breakOf 25 = .ok (.iinc 3 1, 3) := by decide +kernel
theorem dX10_breakOf_28 : decode cX10_breakOf 28 = .ok (.goto (-26), 3) := by decide +kernel
theorem dX10_breakOf_31 : decode cX10_breakOf 31 = .ok (.iconst (-1), 1) := by decide +kernel
theorem dX10_breakOf_32 : decode cX10_breakOf 32 = .ok (.ireturn, 1) := by decide +kernel
theorem dX10_breaks_0 : decode cX10_breaks 0 = .ok (.aload_n 0, 1) := by decide +kernel
theorem dX10_breaks_1 : decode cX10_breaks 1 = .ok (.iload_n 1, 1) := by decide +kernel
theorem dX10_breaks_2 : decode cX10_breaks 2 = .ok (.iload_n 2, 1) := by decide +kernel
theorem dX10_breaks_3 : decode cX10_breaks 3 = .ok (.invokevirtual 289, 3) := by decide +kernel
theorem dX10_breaks_6 : decode cX10_breaks 6 = .ok (.ifCond .eq 12, 3) := by decide +kernel
theorem dX10_breaks_9 : decode cX10_breaks 9 = .ok (.aload_n 0, 1) := by decide +kernel
theorem dX10_breaks_10 : decode cX10_breaks 10 = .ok (.iload_n 1, 1) := by decide +kernel
theorem dX10_breaks_11 : decode cX10_breaks 11 = .ok (.iload_n 2, 1) := by decide +kernel
theorem dX10_breaks_12 : decode cX10_breaks 12 = .ok (.invokevirtual 410, 3) := by decide +kernel
theorem dX10_breaks_15 : decode cX10_breaks 15 = .ok (.goto 5, 3) := by decide +kernel
theorem dX10_breaks_18 : decode cX10_breaks 18 = .ok (.bipush (-2), 2) := by decide +kernel
theorem dX10_breaks_20 : decode cX10_breaks 20 = .ok (.ireturn, 1) := by decide +kernel
theorem dX10_third_0 : decode cX10_third 0 = .ok (.aload_n 0, 1) := by decide +kernel
theorem dX10_third_1 : decode cX10_third 1 = .ok (.iload_n 1, 1) := by decide +kernel
theorem dX10_third_2 : decode cX10_third 2 = .ok (.invokevirtual 106, 3) := by decide +kernel
theorem dX10_third_5 : decode cX10_third 5 = .ok (.ifCond .ne 6, 3) := by decide +kernel
theorem dX10_third_8 : decode cX10_third 8 = .ok (.bipush (-2), 2) := by decide +kernel
theorem dX10_third_10 : decode cX10_third 10 = .ok (.ireturn, 1) := by decide +kernel
theorem dX10_third_11 : decode cX10_third 11 = .ok (.iconst (-1), 1) := by decide +kernel
theorem dX10_third_12 : decode cX10_third 12 = .ok (.istore_n 2, 1) := by decide +kernel
theorem dX10_third_13 : decode cX10_third 13 = .ok (.iconst 0, 1) := by decide +kernel
theorem dX10_third_14 : decode cX10_third 14 = .ok (.istore_n 3, 1) := by decide +kernel
theorem dX10_third_15 : decode cX10_third 15 = .ok (.iload_n 3, 1) := by decide +kernel
theorem dX10_third_16 : decode cX10_third 16 = .ok (.aload_n 0, 1) := by decide +kernel
theorem dX10_third_17 : decode cX10_third 17 = .ok (.invokevirtual 295, 3) := by decide +kernel
theorem dX10_third_20 : decode cX10_third 20 = .ok (.if_icmp .ge 50, 3) := by decide +kernel
theorem dX10_third_23 : decode cX10_third 23 = .ok (.iload_n 3, 1) := by decide +kernel
theorem dX10_third_24 : decode cX10_third 24 = .ok (.iload_n 1, 1) := by decide +kernel
theorem dX10_third_25 : decode cX10_third 25 = .ok (.if_icmp .ne 7, 3) := by decide +kernel
theorem dX10_third_28 : decode cX10_third 28 = .ok (.iconst (-1), 1) := by decide +kernel
theorem dX10_third_29 : decode cX10_third 29 = .ok (.goto 9, 3) := by decide +kernel
theorem dX10_third_32 : decode cX10_third 32 = .ok (.aload_n 0, 1) := by decide +kernel
theorem dX10_third_33 : decode cX10_third 33 = .ok (.iload_n 1, 1) := by decide +kernel
theorem dX10_third_34 : decode cX10_third 34 = .ok (.iload_n 3, 1) := by decide +kernel
theorem dX10_third_35 : decode cX10_third 35 = .ok (.invokevirtual 410, 3) := by decide +kernel
theorem dX10_third_38 : decode cX10_third 38 = .ok (.istore 4, 2) := by decide +kernel
theorem dX10_third_40 : decode cX10_third 40 = .ok (.iload 4, 2) := by decide +kernel
theorem dX10_third_42 : decode cX10_third 42 = .ok (.iconst (-1), 1) := by decide +kernel
theorem dX10_third_43 : decode cX10_third 43 = .ok (.if_icmp .eq 14, 3) := by decide +kernel
theorem dX10_third_46 : decode cX10_third 46 = .ok (.iload_n 2, 1) := by decide +kernel
theorem dX10_third_47 : decode cX10_third 47 = .ok (.iconst (-1), 1) := by decide +kernel
theorem dX10_third_48 : decode cX10_third 48 = .ok (.if_icmp .eq 13, 3) := by decide +kernel
theorem dX10_third_51 : decode cX10_third 51 = .ok (.iload 4, 2) := by decide +kernel
theorem dX10_third_53 : decode cX10_third 53 = .ok (.iload_n 2, 1) := by decide +kernel
theorem dX10_third_54 : decode cX10_third 54 = .ok (.if_icmp .lt 7, 3) := by decide +kernel
theorem dX10_third_57 : decode cX10_third 57 = .ok (.iload_n 2, 1) := by decide +kernel
theorem dX10_third_58 : decode cX10_third 58 = .ok (.goto 5, 3) := by decide +kernel
theorem dX10_third_61 : decode cX10_third 61 = .ok (.iload 4, 2) := by decide +kernel
theorem dX10_third_63 : decode cX10_third 63 = .ok (.istore_n 2, 1) := by decide +kernel
theorem dX10_third_64 : decode cX10_third 64 = .ok (.iinc 3 1, 3) := by decide +kernel
theorem dX10_third_67 : decode cX10_third 67 = .ok (.goto (-52), 3) := by decide +kernel
theorem dX10_third_70 : decode cX10_third 70 = .ok (.iload_n 2, 1) := by decide +kernel
theorem dX10_third_71 : decode cX10_third 71 = .ok (.ireturn, 1) := by decide +kernel
theorem dX10_isRestless_0 : decode cX10_isRestless 0 = .ok (.aload_n 0, 1) := by decide +kernel
theorem dX10_isRestless_1 : decode cX10_isRestless 1 = .ok (.iload_n 1, 1) := by decide +kernel
theorem dX10_isRestless_2 : decode cX10_isRestless 2 = .ok (.invokevirtual 389, 3) := by decide +kernel
theorem dX10_isRestless_5 : decode cX10_isRestless 5 = .ok (.aload_n 0, 1) := by decide +kernel
theorem dX10_isRestless_6 : decode cX10_isRestless 6 = .ok (.iload_n 1, 1) := by decide +kernel
theorem dX10_isRestless_7 : decode cX10_isRestless 7 = .ok (.iconst 0, 1) := by decide +kernel
theorem dX10_isRestless_8 : decode cX10_isRestless 8 = .ok (.iconst 0, 1) := by decide +kernel
theorem dX10_isRestless_9 : decode cX10_isRestless 9 = .ok (.iconst 0, 1) := by decide +kernel
theorem dX10_isRestless_10 : decode cX10_isRestless 10 = .ok (.iconst (-1), 1) := by decide +kernel
theorem dX10_isRestless_11 : decode cX10_isRestless 11 = .ok (.invokevirtual 392, 3) := by decide +kernel
theorem dX10_isRestless_14 : decode cX10_isRestless 14 = .ok (.istore_n 2, 1) := by decide +kernel
theorem dX10_isRestless_15 : decode cX10_isRestless 15 = .ok (.aload_n 0, 1) := by decide +kernel
theorem dX10_isRestless_16 : decode cX10_isRestless 16 = .ok (.iload_n 1, 1) := by decide +kernel
theorem dX10_isRestless_17 : decode cX10_isRestless 17 = .ok (.iconst 0, 1) := by decide +kernel
theorem dX10_isRestless_18 : decode cX10_isRestless 18 = .ok (.invokevirtual 400, 3) := by decide +kernel
theorem dX10_isRestless_21 : decode cX10_isRestless 21 = .ok (.aload_n 0, 1) := by decide +kernel
theorem dX10_isRestless_22 : decode cX10_isRestless 22 = .ok (.getfield 53, 3) := by decide +kernel
theorem dX10_isRestless_25 : decode cX10_isRestless 25 = .ok (.iconst 0, 1) := by decide +kernel
theorem dX10_isRestless_26 : decode cX10_isRestless 26 = .ok (.iaload, 1) := by decide +kernel
theorem dX10_isRestless_27 : decode cX10_isRestless 27 = .ok (.iload_n 2, 1) := by decide +kernel
theorem dX10_isRestless_28 : decode cX10_isRestless 28 = .ok (.if_icmp .le 7, 3) := by decide +kernel
theorem dX10_isRestless_31 : decode cX10_isRestless 31 = .ok (.iconst 1, 1) := by decide +kernel
theorem dX10_isRestless_32 : decode cX10_isRestless 32 = .ok (.goto 4, 3) := by decide +kernel
theorem dX10_isRestless_35 : decode cX10_isRestless 35 = .ok (.iconst 0, 1) := by decide +kernel
theorem dX10_isRestless_36 : decode cX10_isRestless 36 = .ok (.ireturn, 1) := by decide +kernel
theorem dX10_restlessSet_0 : decode cX10_restlessSet 0 = .ok (.iconst 0, 1) := by decide +kernel
theorem dX10_restlessSet_1 : decode cX10_restlessSet 1 = .ok (.istore_n 1, 1) := by decide +kernel
theorem dX10_restlessSet_2 : decode cX10_restlessSet 2 = .ok (.iconst 0, 1) := by decide +kernel
theorem dX10_restlessSet_3 : decode cX10_restlessSet 3 = .ok (.istore_n 2, 1) := by decide +kernel
theorem dX10_restlessSet_4 : decode cX10_restlessSet 4 = .ok (.iload_n 2, 1) := by decide +kernel
theorem dX10_restlessSet_5 : decode cX10_restlessSet 5 = .ok (.aload_n 0, 1) := by decide +kernel
theorem dX10_restlessSet_6 : decode cX10_restlessSet 6 = .ok (.invokevirtual 295, 3) := by decide +kernel
theorem dX10_restlessSet_9 : decode cX10_restlessSet 9 = .ok (.if_icmp .ge 27, 3) := by decide +kernel
theorem dX10_restlessSet_12 : decode cX10_restlessSet 12 = .ok (.iload_n 1, 1) := by decide +kernel
theorem dX10_restlessSet_13 : decode cX10_restlessSet 13 = .ok (.aload_n 0, 1) := by decide +kernel
theorem dX10_restlessSet_14 : decode cX10_restlessSet 14 = .ok (.iload_n 2, 1) := by decide +kernel
theorem dX10_restlessSet_15 : decode cX10_restlessSet 15 = .ok (.invokevirtual 413, 3) := by decide +kernel
theorem dX10_restlessSet_18 : decode cX10_restlessSet 18 = .ok (.ifCond .eq 9, 3) := by decide +kernel
theorem dX10_restlessSet_21 : decode cX10_restlessSet 21 = .ok (.iconst 1, 1) := by decide +kernel
theorem dX10_restlessSet_22 : decode cX10_restlessSet 22 = .ok (.iload_n 2, 1) := by decide +kernel
theorem dX10_restlessSet_23 : decode cX10_restlessSet 23 = .ok (.ishl, 1) := by decide +kernel
theorem dX10_restlessSet_24 : decode cX10_restlessSet 24 = .ok (.goto 4, 3) := by decide +kernel
theorem dX10_restlessSet_27 : decode cX10_restlessSet 27 = .ok (.iconst 0, 1) := by decide +kernel
theorem dX10_restlessSet_28 : decode cX10_restlessSet 28 = .ok (.ior, 1) := by decide +kernel
theorem dX10_restlessSet_29 : decode cX10_restlessSet 29 = .ok (.istore_n 1, 1) := by decide +kernel
theorem dX10_restlessSet_30 : decode cX10_restlessSet 30 = .ok (.iinc 2 1, 3) := by decide +kernel
theorem dX10_restlessSet_33 : decode cX10_restlessSet 33 = .ok (.goto (-29), 3) := by decide +kernel
theorem dX10_restlessSet_36 : decode cX10_restlessSet 36 = .ok (.iload_n 1, 1) := by decide +kernel
theorem dX10_restlessSet_37 : decode cX10_restlessSet 37 = .ok (.ireturn, 1) := by decide +kernel
theorem dX10_restless_0 : decode cX10_restless 0 = .ok (.aload_n 0, 1) := by decide +kernel
theorem dX10_restless_1 : decode cX10_restless 1 = .ok (.invokevirtual 295, 3) := by decide +kernel
theorem dX10_restless_4 : decode cX10_restless 4 = .ok (.ifCond .le 10, 3) := by decide +kernel
theorem dX10_restless_7 : decode cX10_restless 7 = .ok (.aload_n 0, 1) := by decide +kernel
theorem dX10_restless_8 : decode cX10_restless 8 = .ok (.invokevirtual 416, 3) := by decide +kernel
theorem dX10_restless_11 : decode cX10_restless 11 = .ok (.goto 5, 3) := by decide +kernel
theorem dX10_restless_14 : decode cX10_restless 14 = .ok (.bipush (-2), 2) := by decide +kernel
theorem dX10_restless_16 : decode cX10_restless 16 = .ok (.ireturn, 1) := by decide +kernel
theorem dX10_rests_0 : decode cX10_rests 0 = .ok (.iload_n 1, 1) := by decide +kernel
theorem dX10_rests_1 : decode cX10_rests 1 = .ok (.i2l, 1) := by decide +kernel
theorem dX10_rests_2 : decode cX10_rests 2 = .ok (.lconst 1, 1) := by decide +kernel
theorem dX10_rests_3 : decode cX10_rests 3 = .ok (.ldc2_w 419, 3) := by decide +kernel
theorem dX10_rests_6 : decode cX10_rests 6 = .ok (.invokestatic 98, 3) := by decide +kernel
theorem dX10_rests_9 : decode cX10_rests 9 = .ok (.ifCond .eq 28, 3) := by decide +kernel
theorem dX10_rests_12 : decode cX10_rests 12 = .ok (.iload_n 1, 1) := by decide +kernel
