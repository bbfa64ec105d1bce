theorem dX0_clear_0 : decode cX0_clear 0 = .ok (.aload_n 0, 1) := by decide +kernel
theorem dX0_clear_1 : decode cX0_clear 1 = .ok (.iconst 0, 1) := by decide +kernel
theorem dX0_clear_2 : decode cX0_clear 2 = .ok (.putfield 9, 3) := by decide +kernel
theorem dX0_clear_5 : decode cX0_clear 5 = .ok (.aload_n 0, 1) := by decide +kernel
theorem dX0_clear_6 : decode cX0_clear 6 = .ok (.iconst 2, 1) := by decide +kernel
theorem dX0_clear_7 : decode cX0_clear 7 = .ok (.putfield 15, 3) := by decide +kernel
theorem dX0_clear_10 : decode cX0_clear 10 = .ok (.aload_n 0, 1) := by decide +kernel
theorem dX0_clear_11 : decode cX0_clear 11 = .ok (.iconst 0, 1) := by decide +kernel
theorem dX0_clear_12 : decode cX0_clear 12 = .ok (.putfield 18, 3) := by decide +kernel
theorem dX0_clear_15 : decode cX0_clear 15 = .ok (.aload_n 0, 1) := by decide +kernel
theorem dX0_clear_16 : decode cX0_clear 16 = .ok (.iconst 0, 1) := by decide +kernel
theorem dX0_clear_17 : decode cX0_clear 17 = .ok (.putfield 21, 3) := by decide +kernel
theorem dX0_clear_20 : decode cX0_clear 20 = .ok (.aload_n 0, 1) := by decide +kernel
theorem dX0_clear_21 : decode cX0_clear 21 = .ok (.iconst 0, 1) := by decide +kernel
theorem dX0_clear_22 : decode cX0_clear 22 = .ok (.putfield 25, 3) := by decide +kernel
theorem dX0_clear_25 : decode cX0_clear 25 = .ok (.return_, 1) := by decide +kernel
theorem dX0_copyFrom_0 : decode cX0_copyFrom 0 = .ok (.aload_n 0, 1) := by decide +kernel
theorem dX0_copyFrom_1 : decode cX0_copyFrom 1 = .ok (.aload_n 1, 1) := by decide +kernel
theorem dX0_copyFrom_2 : decode cX0_copyFrom 2 = .ok (.getfield 9, 3) := by decide +kernel
theorem dX0_copyFrom_5 : decode cX0_copyFrom 5 = .ok (.putfield 9, 3) := by decide +kernel
theorem dX0_copyFrom_8 : decode cX0_copyFrom 8 = .ok (.aload_n 0, 1) := by decide +kernel
theorem dX0_copyFrom_9 : decode cX0_copyFrom 9 = .ok (.aload_n 1, 1) := by decide +kernel
theorem dX0_copyFrom_10 : decode cX0_copyFrom 10 = .ok (.getfield 15, 3) := by decide +kernel
theorem dX0_copyFrom_13 : decode cX0_copyFrom 13 = .ok (.putfield 15, 3) := by decide +kernel
theorem dX0_copyFrom_16 : decode cX0_copyFrom 16 = .ok (.aload_n 0, 1) := by decide +kernel
theorem dX0_copyFrom_17 : decode cX0_copyFrom 17 = .ok (.aload_n 1, 1) := by decide +kernel
theorem dX0_copyFrom_18 : decode cX0_copyFrom 18 = .ok (.getfield 18, 3) := by decide +kernel
theorem dX0_copyFrom_21 : decode cX0_copyFrom 21 = .ok (.putfield 18, 3) := by decide +kernel
theorem dX0_copyFrom_24 : decode cX0_copyFrom 24 = .ok (.aload_n 0, 1) := by decide +kernel
theorem dX0_copyFrom_25 : decode cX0_copyFrom 25 = .ok (.aload_n 1, 1) := by decide +kernel
theorem dX0_copyFrom_26 : decode cX0_copyFrom 26 = .ok (.getfield 21, 3) := by decide +kernel
theorem dX0_copyFrom_29 : decode cX0_copyFrom 29 = .ok (.putfield 21, 3) := by decide +kernel
theorem dX0_copyFrom_32 : decode cX0_copyFrom 32 = .ok (.aload_n 0, 1) := by decide +kernel
theorem dX0_copyFrom_33 : decode cX0_copyFrom 33 = .ok (.aload_n 1, 1) := by decide +kernel
theorem dX0_copyFrom_34 : decode cX0_copyFrom 34 = .ok (.getfield 25, 3) := by decide +kernel
theorem dX0_copyFrom_37 : decode cX0_copyFrom 37 = .ok (.putfield 25, 3) := by decide +kernel
theorem dX0_copyFrom_40 : decode cX0_copyFrom 40 = .ok (.return_, 1) := by decide +kernel
theorem dX1_copyFrom_0 : decode cX1_copyFrom 0 = .ok (.aload_n 0, 1) := by decide +kernel
theorem dX1_copyFrom_1 : decode cX1_copyFrom 1 = .ok (.aload_n 1, 1) := by decide +kernel
theorem dX1_copyFrom_2 : decode cX1_copyFrom 2 = .ok (.getfield 21, 3) := by decide +kernel
theorem dX1_copyFrom_5 : decode cX1_copyFrom 5 = .ok (.putfield 21, 3) := by decide +kernel
theorem dX1_copyFrom_8 : decode cX1_copyFrom 8 = .ok (.aload_n 1, 1) := by decide +kernel
theorem dX1_copyFrom_9 : decode cX1_copyFrom 9 = .ok (.getfield 9, 3) := by decide +kernel
theorem dX1_copyFrom_12 : decode cX1_copyFrom 12 = .ok (.iconst 0, 1) := by decide +kernel
theorem dX1_copyFrom_13 : decode cX1_copyFrom 13 = .ok (.aload_n 0, 1) := by decide +kernel
theorem dX1_copyFrom_14 : decode cX1_copyFrom 14 = .ok (.getfield 9, 3) := by decide +kernel
theorem dX1_copyFrom_17 : decode cX1_copyFrom 17 = .ok (.iconst 0, 1) := by decide +kernel
theorem dX1_copyFrom_18 : decode cX1_copyFrom 18 = .ok (.bipush 6, 2) := by decide +kernel
theorem dX1_copyFrom_20 : decode cX1_copyFrom 20 = .ok (.invokestatic 25, 3) := by decide +kernel
theorem dX1_copyFrom_23 : decode cX1_copyFrom 23 = .ok (.aload_n 1, 1) := by decide +kernel
theorem dX1_copyFrom_24 : decode cX1_copyFrom 24 = .ok (.getfield 15, 3) := by decide +kernel
theorem dX1_copyFrom_27 : decode cX1_copyFrom 27 = .ok (.iconst 0, 1) := by decide +kernel
theorem dX1_copyFrom_28 : decode cX1_copyFrom 28 = .ok (.aload_n 0, 1) := by decide +kernel
theorem dX1_copyFrom_29 : decode cX1_copyFrom 29 = .ok (.getfield 15, 3) := by decide +kernel
theorem dX1_copyFrom_32 : decode cX1_copyFrom 32 = .ok (.iconst 0, 1) := by decide +kernel
theorem dX1_copyFrom_33 : decode cX1_copyFrom 33 = .ok (.bipush 6, 2) := by decide +kernel
theorem dX1_copyFrom_35 : decode cX1_copyFrom 35 = .ok (.invokestatic 25, 3) := by decide +kernel
theorem dX1_copyFrom_38 : decode cX1_copyFrom 38 = .ok (.aload_n 1, 1) := by decide +kernel
theorem dX1_copyFrom_39 : decode cX1_copyFrom 39 = .ok (.getfield 18, 3) := by decide +kernel
theorem dX1_copyFrom_42 : decode cX1_copyFrom 42 = .ok (.iconst 0, 1) := by decide +kernel
theorem dX1_copyFrom_43 : decode cX1_copyFrom 43 = .ok (.aload_n 0, 1) := by decide +kernel
theorem dX1_copyFrom_44 : decode cX1_copyFrom 44 = .ok (.getfield 18, 3) := by decide +kernel
theorem dX1_copyFrom_47 : decode cX1_copyFrom 47 = .ok (.iconst 0, 1) := by decide +kernel
theorem dX1_copyFrom_48 : decode cX1_copyFrom 48 = .ok (.bipush 6, 2) := by decide +kernel
theorem dX1_copyFrom_50 : decode cX1_copyFrom 50 = .ok (.invokestatic 25, 3) := by decide +kernel
theorem dX1_copyFrom_53 : decode cX1_copyFrom 53 = .ok (.return_, 1) := by decide +kernel
theorem dX2_see_0 : decode cX2_see 0 = .ok (.aload_n 0, 1) := by decide +kernel
theorem dX2_see_1 : decode cX2_see 1 = .ok (.iload_n 2, 1) := by decide +kernel
theorem dX2_see_2 : decode cX2_see 2 = .ok (.putfield 22, 3) := by decide +kernel
theorem dX2_see_5 : decode cX2_see 5 = .ok (.aload_n 0, 1) := by decide +kernel
theorem dX2_see_6 : decode cX2_see 6 = .ok (.iload 4, 2) := by decide +kernel
theorem dX2_see_8 : decode cX2_see 8 = .ok (.putfield 26, 3) := by decide +kernel
theorem dX2_see_11 : decode cX2_see 11 = .ok (.aload_n 0, 1) := by decide +kernel
theorem dX2_see_12 : decode cX2_see 12 = .ok (.ldc 30, 2) := by decide +kernel
theorem dX2_see_14 : decode cX2_see 14 = .ok (.putfield 31, 3) := by decide +kernel
theorem dX2_see_17 : decode cX2_see 17 = .ok (.iconst 0, 1) := by decide +kernel
theorem dX2_see_18 : decode cX2_see 18 = .ok (.istore 5, 2) := by decide +kernel
theorem dX2_see_20 : decode cX2_see 20 = .ok (.iload 5, 2) := by decide +kernel
theorem dX2_see_22 : decode cX2_see 22 = .ok (.aload_n 1, 1) := by decide +kernel
theorem dX2_see_23 : decode cX2_see 23 = .ok (.getfield 34, 3) := by decide +kernel
theorem dX2_see_26 : decode cX2_see 26 = .ok (.if_icmp .ge 57, 3) := by decide +kernel
theorem dX2_see_29 : decode cX2_see 29 = .ok (.iload_n 3, 1) := by decide +kernel
theorem dX2_see_30 : decode cX2_see 30 = .ok (.iload 5, 2) := by decide +kernel
theorem dX2_see_32 : decode cX2_see 32 = .ok (.ishr, 1) := by decide +kernel
theorem dX2_see_33 : decode cX2_see 33 = .ok (.iconst 1, 1) := by decide +kernel
theorem dX2_see_34 : decode cX2_see 34 = .ok (.iand, 1) := by decide +kernel
theorem dX2_see_35 : decode cX2_see 35 = .ok (.ifCond .eq 7, 3) := by decide +kernel
theorem dX2_see_38 : decode cX2_see 38 = .ok (.iconst 1, 1) := by decide +kernel
theorem dX2_see_39 : decode cX2_see 39 = .ok (.goto 4, 3) := by decide +kernel
theorem dX2_see_42 : decode cX2_see 42 = .ok (.iconst 0, 1) := by decide +kernel
theorem dX2_see_43 : decode cX2_see 43 = .ok (.istore 6, 2) := by decide +kernel
theorem dX2_see_45 : decode cX2_see 45 = .ok (.aload_n 0, 1) := by decide +kernel
theorem dX2_see_46 : decode cX2_see 46 = .ok (.getfield 18, 3) := by decide +kernel
theorem dX2_see_49 : decode cX2_see 49 = .ok (.iload 5, 2) := by decide +kernel
theorem dX2_see_51 : decode cX2_see 51 = .ok (.iload 6, 2) := by decide +kernel
theorem dX2_see_53 : decode cX2_see 53 = .ok (.ifCond .eq 16, 3) := by decide +kernel
theorem dX2_see_56 : decode cX2_see 56 = .ok (.aload_n 1, 1) := by decide +kernel
theorem dX2_see_57 : decode cX2_see 57 = .ok (.getfield 39, 3) := by decide +kernel
theorem dX2_see_60 : decode cX2_see 60 = .ok (.iload 5, 2) := by decide +kernel
theorem dX2_see_62 : decode cX2_see 62 = .ok (.aaload, 1) := by decide +kernel
theorem dX2_see_63 : decode cX2_see 63 = .ok (.invokevirtual 43, 3) := by decide +kernel
theorem dX2_see_66 : decode cX2_see 66 = .ok (.goto 10, 3) := by decide +kernel
theorem dX2_see_69 : decode cX2_see 69 = .ok (.aload_n 1, 1) := by decide +kernel
theorem dX2_see_70 : decode cX2_see 70 = .ok (.iload_n 2, 1) := by decide +kernel
theorem dX2_see_71 : decode cX2_see 71 = .ok (.iload 5, 2) := by decide +kernel
theorem dX2_see_73 : decode cX2_see 73 = .ok (.invokevirtual 49, 3) := by decide +kernel
theorem dX2_see_76 : decode cX2_see 76 = .ok (.iastore, 1) := by decide +kernel
theorem dX2_see_77 : decode cX2_see 77 = .ok (.iinc 5 1, 3) := by decide +kernel
theorem dX2_see_80 : decode cX2_see 80 = .ok (.goto (-60), 3) := by decide +kernel
theorem dX2_see_83 : decode cX2_see 83 = .ok (.return_, 1) := by decide +kernel
theorem dX2_behind_0 : decode cX2_behind 0 = .ok (.aload_n 0, 1) := by decide +kernel
theorem dX2_behind_1 : decode cX2_behind 1 = .ok (.getfield 26, 3) := by decide +kernel
theorem dX2_behind_4 : decode cX2_behind 4 = .ok (.ifCond .ne 5, 3) := by decide +kernel
theorem dX2_behind_7 : decode cX2_behind 7 = .ok (.iload_n 2, 1) := by decide +kernel
theorem dX2_behind_8 : decode cX2_behind 8 = .ok (.ireturn, 1) := by decide +kernel
theorem dX2_behind_9 : decode cX2_behind 9 = .ok (.aload_n 0, 1) := by decide +kernel
theorem dX2_behind_10 : decode cX2_behind 10 = .ok (.getfield 12, 3) := by decide +kernel
theorem dX2_behind_13 : decode cX2_behind 13 = .ok (.aload_n 1, 1) := by decide +kernel
theorem dX2_behind_14 : decode cX2_behind 14 = .ok (.getfield 34, 3) := by decide +kernel
theorem dX2_behind_17 : decode cX2_behind 17 = .ok (.putfield 53, 3) := by decide +kernel
theorem dX2_behind_20 : decode cX2_behind 20 = .ok (.aload_n 0, 1) := by decide +kernel
theorem dX2_behind_21 : decode cX2_behind 21 = .ok (.getfield 12, 3) := by decide +kernel
theorem dX2_behind_24 : decode cX2_behind 24 = .ok (.aload_n 1, 1) := by decide +kernel
theorem dX2_behind_25 : decode cX2_behind 25 = .ok (.getfield 54, 3) := by decide +kernel
theorem dX2_behind_28 : decode cX2_behind 28 = .ok (.putfield 57, 3) := by decide +kernel
theorem dX2_behind_31 : decode cX2_behind 31 = .ok (.aload_n 0, 1) := by decide +kernel
theorem dX2_behind_32 : decode cX2_behind 32 = .ok (.getfield 12, 3) := by decide +kernel
theorem dX2_behind_35 : decode cX2_behind 35 = .ok (.aload_n 1, 1) := by decide +kernel
theorem dX2_behind_36 : decode cX2_behind 36 = .ok (.getfield 58, 3) := by decide +kernel
theorem dX2_behind_39 : decode cX2_behind 39 = .ok (.putfield 61, 3) := by decide +kernel
theorem dX2_behind_42 : decode cX2_behind 42 = .ok (.iconst 0, 1) := by decide +kernel
theorem dX2_behind_43 : decode cX2_behind 43 = .ok (.istore 6, 2) := by decide +kernel
theorem dX2_behind_45 : decode cX2_behind 45 = .ok (.iload 6, 2) := by decide +kernel
theorem dX2_behind_47 : decode cX2_behind 47 = .ok (.aload_n 1, 1) := by decide +kernel
theorem dX2_behind_48 : decode cX2_behind 48 = .ok (.getfield 34, 3) := by decide +kernel
theorem dX2_behind_51 : decode cX2_behind 51 = .ok (.if_icmp .ge 37, 3) := by decide +kernel
theorem dX2_behind_54 : decode cX2_behind 54 = .ok (.aload_n 0, 1) := by decide +kernel
theorem dX2_behind_55 : decode cX2_behind 55 = .ok (.getfield 12, 3) := by decide +kernel
theorem dX2_behind_58 : decode cX2_behind 58 = .ok (.getfield 62, 3) := by decide +kernel
theorem dX2_behind_61 : decode cX2_behind 61 = .ok (.iload 6, 2) := by decide +kernel
theorem dX2_behind_63 : decode cX2_behind 63 = .ok (.aload_n 0, 1) := by decide +kernel
theorem dX2_behind_64 : decode cX2_behind 64 = .ok (.getfield 18, 3) := by decide +kernel
theorem dX2_behind_67 : decode cX2_behind 67 = .ok (.iload 6, 2) := by decide +kernel
theorem dX2_behind_69 : decode cX2_behind 69 = .ok (.iaload, 1) := by decide +kernel
theorem dX2_behind_70 : decode cX2_behind 70 = .ok (.iastore, 1) := by decide +kernel
theorem dX2_behind_71 : decode cX2_behind 71 = .ok (.aload_n 0, 1) := by decide +kernel
theorem dX2_behind_72 : decode cX2_behind 72 = .ok (.getfield 12, 3) := by decide +kernel
theorem dX2_behind_75 : decode cX2_behind 75 = .ok (.getfield 65, 3) := by decide +kernel
theorem dX2_behind_78 : decode cX2_behind 78 = .ok (.iload 6, 2) := by decide +kernel
theorem dX2_behind_80 : decode cX2_behind 80 = .ok (.iconst 0, 1) := by decide +kernel
theorem dX2_behind_81 : decode cX2_behind 81 = .ok (.iastore, 1) := by decide +kernel
theorem dX2_behind_82 : decode cX2_behind 82 = .ok (.iinc 6 1, 3) := by decide +kernel
theorem dX2_behind_85 : decode cX2_behind 85 = .ok (.goto (-40), 3) := by decide +kernel
theorem dX2_behind_88 : decode cX2_behind 88 = .ok (.aload_n 0, 1) := by decide +kernel
theorem dX2_behind_89 : decode cX2_behind 89 = .ok (.getfield 12, 3) := by decide +kernel
theorem dX2_behind_92 : decode cX2_behind 92 = .ok (.getfield 62, 3) := by decide +kernel
theorem dX2_behind_95 : decode cX2_behind 95 = .ok (.aload_n 0, 1) := by decide +kernel
theorem dX2_behind_96 : decode cX2_behind 96 = .ok (.getfield 22, 3) := by decide +kernel
theorem dX2_behind_99 : decode cX2_behind 99 = .ok (.iload_n 2, 1) := by decide +kernel
theorem dX2_behind_100 : decode cX2_behind 100 = .ok (.iastore, 1) := by decide +kernel
theorem dX2_behind_101 : decode cX2_behind 101 = .ok (.aload_n 0, 1) := by decide +kernel
theorem dX2_behind_102 : decode cX2_behind 102 = .ok (.getfield 12, 3) := by decide +kernel
theorem dX2_behind_105 : decode cX2_behind 105 = .ok (.getfield 65, 3) := by decide +kernel
theorem dX2_behind_108 : decode cX2_behind 108 = .ok (.aload_n 0, 1) := by decide +kernel
theorem dX2_behind_109 : decode cX2_behind 109 = .ok (.getfield 22, 3) := by decide +kernel
theorem dX2_behind_112 : decode cX2_behind 112 = .ok (.iload_n 3, 1) := by decide +kernel
theorem dX2_behind_113 : decode cX2_behind 113 = .ok (.iload_n 2, 1) := by decide +kernel
theorem dX2_behind_114 : decode cX2_behind 114 = .ok (.invokestatic 68, 3) := by decide +kernel
theorem dX2_behind_117 : decode cX2_behind 117 = .ok (.iastore, 1) := by decide +kernel
theorem dX2_behind_118 : decode cX2_behind 118 = .ok (.iload 4, 2) := by decide +kernel
theorem dX2_behind_120 : decode cX2_behind 120 = .ok (.ifCond .le 30, 3) := by decide +kernel
theorem dX2_behind_123 : decode cX2_behind 123 = .ok (.aload_n 0, 1) := by decide +kernel
theorem dX2_behind_124 : decode cX2_behind 124 = .ok (.getfield 12, 3) := by decide +kernel
theorem dX2_behind_127 : decode cX2_behind 127 = .ok (.getfield 62, 3) := by decide +kernel
theorem dX2_behind_130 : decode cX2_behind 130 = .ok (.iload 5, 2) := by decide +kernel
theorem dX2_behind_132 : decode cX2_behind 132 = .ok (.aload_n 1, 1) := by decide +kernel
theorem dX2_behind_133 : decode cX2_behind 133 = .ok (.getfield 54, 3) := by decide +kernel
theorem dX2_behind_136 : decode cX2_behind 136 = .ok (.aload_n 0, 1) := by decide +kernel
theorem dX2_behind_137 : decode cX2_behind 137 = .ok (.getfield 18, 3) := by decide +kernel
theorem dX2_behind_140 : decode cX2_behind 140 = .ok (.iload 5, 2) := by decide +kernel
theorem dX2_behind_142 : decode cX2_behind 142 = .ok (.iaload, 1) := by decide +kernel
theorem dX2_behind_143 : decode cX2_behind 143 = .ok (.iload 4, 2) := by decide +kernel
theorem dX2_behind_145 : decode cX2_behind 145 = .ok (.iadd, 1) := by decide +kernel
theorem dX2_behind_146 : decode cX2_behind 146 = .ok (.invokestatic 68, 3) := by decide +kernel
theorem dX2_behind_149 : decode cX2_behind 149 = .ok (.iastore, 1) := by decide +kernel
theorem dX2_behind_150 : decode cX2_behind 150 = .ok (.aload_n 0, 1) := by decide +kernel
theorem dX2_behind_151 : decode cX2_behind 151 = .ok (.getfield 12, 3) := by decide +kernel
theorem dX2_behind_154 : decode cX2_behind 154 = .ok (.aload_n 1, 1) := by decide +kernel
theorem dX2_behind_155 : decode cX2_behind 155 = .ok (.getfield 73, 3) := by decide +kernel
theorem dX2_behind_158 : decode cX2_behind 158 = .ok (.invokevirtual 77, 3) := by decide +kernel
theorem dX2_behind_161 : decode cX2_behind 161 = .ok (.aload_n 0, 1) := by decide +kernel
theorem dX2_behind_162 : decode cX2_behind 162 = .ok (.getfield 12, 3) := by decide +kernel
theorem dX2_behind_165 : decode cX2_behind 165 = .ok (.getfield 62, 3) := by decide +kernel
theorem dX2_behind_168 : decode cX2_behind 168 = .ok (.aload_n 0, 1) := by decide +kernel
theorem dX2_behind_169 : decode cX2_behind 169 = .ok (.getfield 22, 3) := by decide +kernel
theorem dX2_behind_172 : decode cX2_behind 172 = .ok (.iaload, 1) := by decide +kernel
theorem dX2_behind_173 : decode cX2_behind 173 = .ok (.ireturn, 1) := by decide +kernel
theorem dX2_worthOf_0 : decode cX2_worthOf 0 = .ok (.aload_n 1, 1) := by decide +kernel
theorem dX2_worthOf_1 : decode cX2_worthOf 1 = .ok (.getfield 39, 3) := by decide +kernel
theorem dX2_worthOf_4 : decode cX2_worthOf 4 = .ok (.aload_n 0, 1) := by decide +kernel
theorem dX2_worthOf_5 : decode cX2_worthOf 5 = .ok (.getfield 22, 3) := by decide +kernel
theorem dX2_worthOf_8 : decode cX2_worthOf 8 = .ok (.aaload, 1) := by decide +kernel
theorem dX2_worthOf_9 : decode cX2_worthOf 9 = .ok (.astore 6, 2) := by decide +kernel
theorem dX2_worthOf_11 : decode cX2_worthOf 11 = .ok (.aload_n 1, 1) := by decide +kernel
theorem dX2_worthOf_12 : decode cX2_worthOf 12 = .ok (.aload_n 0, 1) := by decide +kernel
theorem dX2_worthOf_13 : decode cX2_worthOf 13 = .ok (.getfield 22, 3) := by decide +kernel
theorem dX2_worthOf_16 : decode cX2_worthOf 16 = .ok (.iload_n 2, 1) := by decide +kernel
theorem dX2_worthOf_17 : decode cX2_worthOf 17 = .ok (.invokevirtual 81, 3) := by decide +kernel
theorem dX2_worthOf_20 : decode cX2_worthOf 20 = .ok (.iload_n 3, 1) := by decide +kernel
theorem dX2_worthOf_21 : decode cX2_worthOf 21 = .ok (.isub, 1) := by decide +kernel
theorem dX2_worthOf_22 : decode cX2_worthOf 22 = .ok (.iload 4, 2) := by decide +kernel
theorem dX2_worthOf_24 : decode cX2_worthOf 24 = .ok (.isub, 1) := by decide +kernel
theorem dX2_worthOf_25 : decode cX2_worthOf 25 = .ok (.istore 7, 2) := by decide +kernel
theorem dX2_worthOf_27 : decode cX2_worthOf 27 = .ok (.aload_n 0, 1) := by decide +kernel
theorem dX2_worthOf_28 : decode cX2_worthOf 28 = .ok (.aload_n 1, 1) := by decide +kernel
theorem dX2_worthOf_29 : decode cX2_worthOf 29 = .ok (.iload 7, 2) := by decide +kernel
theorem dX2_worthOf_31 : decode cX2_worthOf 31 = .ok (.aload 6, 2) := by decide +kernel
theorem dX2_worthOf_33 : decode cX2_worthOf 33 = .ok (.getfield 84, 3) := by decide +kernel
theorem dX2_worthOf_36 : decode cX2_worthOf 36 = .ok (.iload 4, 2) := by decide +kernel
theorem dX2_worthOf_38 : decode cX2_worthOf 38 = .ok (.iload 5, 2) := by decide +kernel
theorem dX2_worthOf_40 : decode cX2_worthOf 40 = .ok (.invokevirtual 86, 3) := by decide +kernel
theorem dX2_worthOf_43 : decode cX2_worthOf 43 = .ok (.istore 8, 2) := by decide +kernel
theorem dX2_worthOf_45 : decode cX2_worthOf 45 = .ok (.aload 6, 2) := by decide +kernel
theorem dX2_worthOf_47 : decode cX2_worthOf 47 = .ok (.iload_n 2, 1) := by decide +kernel
theorem dX2_worthOf_48 : decode cX2_worthOf 48 = .ok (.iload_n 3, 1) := by decide +kernel
theorem dX2_worthOf_49 : decode cX2_worthOf 49 = .ok (.invokevirtual 90, 3) := by decide +kernel
theorem dX2_worthOf_52 : decode cX2_worthOf 52 = .ok (.aload 6, 2) := by decide +kernel
theorem dX2_worthOf_54 : decode cX2_worthOf 54 = .ok (.getfield 93, 3) := by decide +kernel
theorem dX2_worthOf_57 : decode cX2_worthOf 57 = .ok (.iload 8, 2) := by decide +kernel
theorem dX2_worthOf_59 : decode cX2_worthOf 59 = .ok (.imul, 1) := by decide +kernel
theorem dX2_worthOf_60 : decode cX2_worthOf 60 = .ok (.iadd, 1) := by decide +kernel
theorem dX2_worthOf_61 : decode cX2_worthOf 61 = .ok (.ireturn, 1) := by decide +kernel
theorem dX2_worthOfHolding_0 : decode cX2_worthOfHolding 0 = .ok (.aload_n 1, 1) := by decide +kernel
theorem dX2_worthOfHolding_1 : decode cX2_worthOfHolding 1 = .ok (.getfield 39, 3) := by decide +kernel
theorem dX2_worthOfHolding_4 : decode cX2_worthOfHolding 4 = .ok (.aload_n 0, 1) := by decide +kernel
theorem dX2_worthOfHolding_5 : decode cX2_worthOfHolding 5 = .ok (.getfield 22, 3) := by decide +kernel
theorem dX2_worthOfHolding_8 : decode cX2_worthOfHolding 8 = .ok (.aaload, 1) := by decide +kernel
theorem dX2_worthOfHolding_9 : decode cX2_worthOfHolding 9 = .ok (.getfield 93, 3) := by decide +kernel
theorem dX2_worthOfHolding_12 : decode cX2_worthOfHolding 12 = .ok (.aload_n 0, 1) := by decide +kernel
theorem dX2_worthOfHolding_13 : decode cX2_worthOfHolding 13 = .ok (.aload_n 1, 1) := by decide +kernel
theorem dX2_worthOfHolding_14 : decode cX2_worthOfHolding 14 = .ok (.iload_n 2, 1) := by decide +kernel
theorem dX2_worthOfHolding_15 : decode cX2_worthOfHolding 15 = .ok (.iload_n 3, 1) := by decide +kernel
theorem dX2_worthOfHolding_16 : decode cX2_worthOfHolding 16 = .ok (.iconst 0, 1) := by decide +kernel
theorem dX2_worthOfHolding_17 : decode cX2_worthOfHolding 17 = .ok (.iconst (-1), 1) := by decide +kernel
theorem dX2_worthOfHolding_18 : decode cX2_worthOfHolding 18 = .ok (.invokevirtual 86, 3) := by decide +kernel
theorem dX2_worthOfHolding_21 : decode cX2_worthOfHolding 21 = .ok (.imul, 1) := by decide +kernel
theorem dX2_worthOfHolding_22 : decode cX2_worthOfHolding 22 = .ok (.ireturn, 1) := by decide +kernel
theorem dX2_mostBehind_0 : decode cX2_mostBehind 0 = .ok (.aload_n 0, 1) := by decide +kernel
theorem dX2_mostBehind_1 : decode cX2_mostBehind 1 = .ok (.getfield 26, 3) := by decide +kernel
theorem dX2_mostBehind_4 : decode cX2_mostBehind 4 = .ok (.ifCond .eq 28, 3) := by decide +kernel
theorem dX2_mostBehind_7 : decode cX2_mostBehind 7 = .ok (.aload_n 1, 1) := by decide +kernel
theorem dX2_mostBehind_8 : decode cX2_mostBehind 8 = .ok (.getfield 73, 3) := by decide +kernel
theorem dX2_mostBehind_11 : decode cX2_mostBehind 11 = .ok (.getfield 96, 3) := by decide +kernel
theorem dX2_mostBehind_14 : decode cX2_mostBehind 14 = .ok (.ifCond .ne 14, 3) := by decide +kernel
theorem dX2_mostBehind_17 : decode cX2_mostBehind 17 = .ok (.aload_n 1, 1) := by decide +kernel
theorem dX2_mostBehind_18 : decode cX2_mostBehind 18 = .ok (.getfield 73, 3) := by decide +kernel
theorem dX2_mostBehind_21 : decode cX2_mostBehind 21 = .ok (.getfield 101, 3) := by decide +kernel
theorem dX2_mostBehind_24 : decode cX2_mostBehind 24 = .ok (.iconst 1, 1) := by decide +kernel
theorem dX2_mostBehind_25 : decode cX2_mostBehind 25 = .ok (.if_icmp .ne 7, 3) := by decide +kernel
theorem dX2_mostBehind_28 : decode cX2_mostBehind 28 = .ok (.iconst 1, 1) := by decide +kernel
theorem dX2_mostBehind_29 : decode cX2_mostBehind 29 = .ok (.goto 4, 3) := by decide +kernel
theorem dX2_mostBehind_32 : decode cX2_mostBehind 32 = .ok (.iconst 0, 1) := by decide +kernel
theorem dX2_mostBehind_33 : decode cX2_mostBehind 33 = .ok (.istore_n 3, 1) := by decide +kernel
theorem dX2_mostBehind_34 : decode cX2_mostBehind 34 = .ok (.iload_n 3, 1) := by decide +kernel
theorem dX2_mostBehind_35 : decode cX2_mostBehind 35 = .ok (.ifCond .eq 10, 3) := by decide +kernel
theorem dX2_mostBehind_38 : decode cX2_mostBehind 38 = .ok (.aload_n 1, 1) := by decide +kernel
theorem dX2_mostBehind_39 : decode cX2_mostBehind 39 = .ok (.getfield 54, 3) := by decide +kernel
theorem dX2_mostBehind_42 : decode cX2_mostBehind 42 = .ok (.goto 4, 3) := by decide +kernel
theorem dX2_mostBehind_45 : decode cX2_mostBehind 45 = .ok (.iload_n 2, 1) := by decide +kernel
theorem dX2_mostBehind_46 : decode cX2_mostBehind 46 = .ok (.ireturn, 1) := by decide +kernel
theorem dX2_search_0 : decode cX2_search 0 = .ok (.aload_n 1, 1) := by decide +kernel
theorem dX2_search_1 : decode cX2_search 1 = .ok (.getfield 39, 3) := by decide +kernel
theorem dX2_search_4 : decode cX2_search 4 = .ok (.aload_n 0, 1) := by decide +kernel
theorem dX2_search_5 : decode cX2_search 5 = .ok (.getfield 22, 3) := by decide +kernel
theorem dX2_search_8 : decode cX2_search 8 = .ok (.aaload, 1) := by decide +kernel
theorem dX2_search_9 : decode cX2_search 9 = .ok (.astore_n 3, 1) := by decide +kernel
theorem dX2_search_10 : decode cX2_search 10 = .ok (.aload_n 1, 1) := by decide +kernel
theorem dX2_search_11 : decode cX2_search 11 = .ok (.aload_n 0, 1) := by decide +kernel
theorem dX2_search_12 : decode cX2_search 12 = .ok (.getfield 22, 3) := by decide +kernel
theorem dX2_search_15 : decode cX2_search 15 = .ok (.iload_n 2, 1) := by decide +kernel
theorem dX2_search_16 : decode cX2_search 16 = .ok (.invokevirtual 81, 3) := by decide +kernel
theorem dX2_search_19 : decode cX2_search 19 = .ok (.istore 4, 2) := by decide +kernel
theorem dX2_search_21 : decode cX2_search 21 = .ok (.iconst 0, 1) := by decide +kernel
theorem dX2_search_22 : decode cX2_search 22 = .ok (.istore 5, 2) := by decide +kernel
theorem dX2_search_24 : decode cX2_search 24 = .ok (.iload 5, 2) := by decide +kernel
theorem dX2_search_26 : decode cX2_search 26 = .ok (.iload 4, 2) := by decide +kernel
theorem dX2_search_28 : decode cX2_search 28 = .ok (.if_icmp .gt 197, 3) := by decide +kernel
theorem dX2_search_31 : decode cX2_search 31 = .ok (.aload_n 3, 1) := by decide +kernel
theorem dX2_search_32 : decode cX2_search 32 = .ok (.iload_n 2, 1) := by decide +kernel
theorem dX2_search_33 : decode cX2_search 33 = .ok (.iload 5, 2) := by decide +kernel
theorem dX2_search_35 : decode cX2_search 35 = .ok (.invokevirtual 90, 3) := by decide +kernel
theorem dX2_search_38 : decode cX2_search 38 = .ok (.istore 6, 2) := by decide +kernel
theorem dX2_search_40 : decode cX2_search 40 = .ok (.iconst 0, 1) := by decide +kernel
theorem dX2_search_41 : decode cX2_search 41 = .ok (.istore 7, 2) := by decide +kernel
theorem dX2_search_43 : decode cX2_search 43 = .ok (.iload 7, 2) := by decide +kernel
theorem dX2_search_45 : decode cX2_search 45 = .ok (.iload 4, 2) := by decide +kernel
theorem dX2_search_47 : decode cX2_search 47 = .ok (.iload 5, 2) := by decide +kernel
theorem dX2_search_49 : decode cX2_search 49 = .ok (.isub, 1) := by decide +kernel
theorem dX2_search_50 : decode cX2_search 50 = .ok (.if_icmp .gt 169, 3) := by decide +kernel
theorem dX2_search_53 : decode cX2_search 53 = .ok (.iload 4, 2) := by decide +kernel
theorem dX2_search_55 : decode cX2_search 55 = .ok (.iload 5, 2) := by decide +kernel
theorem dX2_search_57 : decode cX2_search 57 = .ok (.isub, 1) := by decide +kernel
theorem dX2_search_58 : decode cX2_search 58 = .ok (.iload 7, 2) := by decide +kernel
theorem dX2_search_60 : decode cX2_search 60 = .ok (.isub, 1) := by decide +kernel
theorem dX2_search_61 : decode cX2_search 61 = .ok (.istore 8, 2) := by decide +kernel
theorem dX2_search_63 : decode cX2_search 63 = .ok (.iload 6, 2) := by decide +kernel
theorem dX2_search_65 : decode cX2_search 65 = .ok (.aload_n 3, 1) := by decide +kernel
theorem dX2_search_66 : decode cX2_search 66 = .ok (.getfield 93, 3) := by decide +kernel
theorem dX2_search_69 : decode cX2_search 69 = .ok (.aload_n 0, 1) := by decide +kernel
theorem dX2_search_70 : decode cX2_search 70 = .ok (.aload_n 1, 1) := by decide +kernel
theorem dX2_search_71 : decode cX2_search 71 = .ok (.iload 8, 2) := by decide +kernel
theorem dX2_search_73 : decode cX2_search 73 = .ok (.invokevirtual 104, 3) := by decide +kernel
theorem dX2_search_76 : decode cX2_search 76 = .ok (.imul, 1) := by decide +kernel
theorem dX2_search_77 : decode cX2_search 77 = .ok (.iadd, 1) := by decide +kernel
theorem dX2_search_78 : decode cX2_search 78 = .ok (.aload_n 0, 1) := by decide +kernel
theorem dX2_search_79 : decode cX2_search 79 = .ok (.getfield 31, 3) := by decide +kernel
theorem dX2_search_82 : decode cX2_search 82 = .ok (.if_icmp .gt 6, 3) := by decide +kernel
theorem dX2_search_85 : decode cX2_search 85 = .ok (.goto 134, 3) := by decide +kernel
theorem dX2_search_88 : decode cX2_search 88 = .ok (.iload 7, 2) := by decide +kernel
theorem dX2_search_90 : decode cX2_search 90 = .ok (.ifCond .ne 7, 3) := by decide +kernel
theorem dX2_search_93 : decode cX2_search 93 = .ok (.iconst (-1), 1) := by decide +kernel
theorem dX2_search_94 : decode cX2_search 94 = .ok (.goto 9, 3) := by decide +kernel
theorem dX2_search_97 : decode cX2_search 97 = .ok (.aload_n 1, 1) := by decide +kernel
theorem dX2_search_98 : decode cX2_search 98 = .ok (.getfield 34, 3) := by decide +kernel
theorem dX2_search_101 : decode cX2_search 101 = .ok (.iconst 1, 1) := by decide +kernel
theorem dX2_search_102 : decode cX2_search 102 = .ok (.isub, 1) := by decide +kernel
theorem dX2_search_103 : decode cX2_search 103 = .ok (.istore 9, 2) := by decide +kernel
theorem dX2_search_105 : decode cX2_search 105 = .ok (.iload 7, 2) := by decide +kernel
theorem dX2_search_107 : decode cX2_search 107 = .ok (.ifCond .ne 7, 3) := by decide +kernel
theorem dX2_search_110 : decode cX2_search 110 = .ok (.iconst (-1), 1) := by decide +kernel
theorem dX2_search_111 : decode cX2_search 111 = .ok (.goto 4, 3) := by decide +kernel
theorem dX2_search_114 : decode cX2_search 114 = .ok (.iconst 0, 1) := by decide +kernel
theorem dX2_search_115 : decode cX2_search 115 = .ok (.istore 10, 2) := by decide +kernel
theorem dX2_search_117 : decode cX2_search 117 = .ok (.iload 10, 2) := by decide +kernel
theorem dX2_search_119 : decode cX2_search 119 = .ok (.iload 9, 2) := by decide +kernel
theorem dX2_search_121 : decode cX2_search 121 = .ok (.if_icmp .gt 92, 3) := by decide +kernel
theorem dX2_search_124 : decode cX2_search 124 = .ok (.iload 10, 2) := by decide +kernel
theorem dX2_search_126 : decode cX2_search 126 = .ok (.aload_n 0, 1) := by decide +kernel
theorem dX2_search_127 : decode cX2_search 127 = .ok (.getfield 22, 3) := by decide +kernel
theorem dX2_search_130 : decode cX2_search 130 = .ok (.if_icmp .ne 6, 3) := by decide +kernel
theorem dX2_search_133 : decode cX2_search 133 = .ok (.goto 74, 3) := by decide +kernel
theorem dX2_search_136 : decode cX2_search 136 = .ok (.aload_n 0, 1) := by decide +kernel
theorem dX2_search_137 : decode cX2_search 137 = .ok (.aload_n 1, 1) := by decide +kernel
theorem dX2_search_138 : decode cX2_search 138 = .ok (.iload 8, 2) := by decide +kernel
theorem dX2_search_140 : decode cX2_search 140 = .ok (.aload_n 3, 1) := by decide +kernel
theorem dX2_search_141 : decode cX2_search 141 = .ok (.getfield 84, 3) := by decide +kernel
theorem dX2_search_144 : decode cX2_search 144 = .ok (.iload 7, 2) := by decide +kernel
theorem dX2_search_146 : decode cX2_search 146 = .ok (.iload 10, 2) := by decide +kernel
theorem dX2_search_148 : decode cX2_search 148 = .ok (.invokevirtual 86, 3) := by decide +kernel
theorem dX2_search_151 : decode cX2_search 151 = .ok (.istore 11, 2) := by decide +kernel
theorem dX2_search_153 : decode cX2_search 153 = .ok (.iload 6, 2) := by decide +kernel
theorem dX2_search_155 : decode cX2_search 155 = .ok (.aload_n 3, 1) := by decide +kernel
theorem dX2_search_156 : decode cX2_search 156 = .ok (.getfield 93, 3) := by decide +kernel
theorem dX2_search_159 : decode cX2_search 159 = .ok (.iload 11, 2) := by decide +kernel
theorem dX2_search_161 : decode cX2_search 161 = .ok (.imul, 1) := by decide +kernel
theorem dX2_search_162 : decode cX2_search 162 = .ok (.iadd, 1) := by decide +kernel
theorem dX2_search_163 : decode cX2_search 163 = .ok (.aload_n 0, 1) := by decide +kernel
theorem dX2_search_164 : decode cX2_search 164 = .ok (.getfield 31, 3) := by decide +kernel
theorem dX2_search_167 : decode cX2_search 167 = .ok (.if_icmp .le 40, 3) := by decide +kernel
theorem dX2_search_170 : decode cX2_search 170 = .ok (.aload_n 0, 1) := by decide +kernel
theorem dX2_search_171 : decode cX2_search 171 = .ok (.iload 6, 2) := by decide +kernel
theorem dX2_search_173 : decode cX2_search 173 = .ok (.aload_n 3, 1) := by decide +kernel
theorem dX2_search_174 : decode cX2_search 174 = .ok (.getfield 93, 3) := by decide +kernel
theorem dX2_search_177 : decode cX2_search 177 = .ok (.iload 11, 2) := by decide +kernel
theorem dX2_search_179 : decode cX2_search 179 = .ok (.imul, 1) := by decide +kernel
theorem dX2_search_180 : decode cX2_search 180 = .ok (.iadd, 1) := by decide +kernel
theorem dX2_search_181 : decode cX2_search 181 = .ok (.putfield 31, 3) := by decide +kernel
theorem dX2_search_184 : decode cX2_search 184 = .ok (.aload_n 0, 1) := by decide +kernel
theorem dX2_search_185 : decode cX2_search 185 = .ok (.iload_n 2, 1) := by decide +kernel
theorem dX2_search_186 : decode cX2_search 186 = .ok (.putfield 108, 3) := by decide +kernel
theorem dX2_search_189 : decode cX2_search 189 = .ok (.aload_n 0, 1) := by decide +kernel
theorem dX2_search_190 : decode cX2_search 190 = .ok (.iload 5, 2) := by decide +kernel
theorem dX2_search_192 : decode cX2_search 192 = .ok (.putfield 111, 3) := by decide +kernel
theorem dX2_search_195 : decode cX2_search 195 = .ok (.aload_n 0, 1) := by decide +kernel
theorem dX2_search_196 : decode cX2_search 196 = .ok (.iload 7, 2) := by decide +kernel
theorem dX2_search_198 : decode cX2_search 198 = .ok (.putfield 114, 3) := by decide +kernel
theorem dX2_search_201 : decode cX2_search 201 = .ok (.aload_n 0, 1) := by decide +kernel
theorem dX2_search_202 : decode cX2_search 202 = .ok (.iload 10, 2) := by decide +kernel
theorem dX2_search_204 : decode cX2_search 204 = .ok (.putfield 117, 3) := by decide +kernel
theorem dX2_search_207 : decode cX2_search 207 = .ok (.iinc 10 1, 3) := by decide +kernel
theorem dX2_search_210 : decode cX2_search 210 = .ok (.goto (-93), 3) := by decide +kernel
theorem dX2_search_213 : decode cX2_search 213 = .ok (.iinc 7 1, 3) := by decide +kernel
theorem dX2_search_216 : decode cX2_search 216 = .ok (.goto (-173), 3) := by decide +kernel
theorem dX2_search_219 : decode cX2_search 219 = .ok (.iinc 5 1, 3) := by decide +kernel
theorem dX2_search_222 : decode cX2_search 222 = .ok (.goto (-198), 3) := by decide +kernel
theorem dX2_search_225 : decode cX2_search 225 = .ok (.return_, 1) := by decide +kernel
theorem dX2_isRestless_0 : decode cX2_isRestless 0 = .ok (.aload_n 0, 1) := by decide +kernel
theorem dX2_isRestless_1 : decode cX2_isRestless 1 = .ok (.aload_n 1, 1) := by decide +kernel
theorem dX2_isRestless_2 : decode cX2_isRestless 2 = .ok (.iload_n 2, 1) := by decide +kernel
theorem dX2_isRestless_3 : decode cX2_isRestless 3 = .ok (.iconst 0, 1) := by decide +kernel
theorem dX2_isRestless_4 : decode cX2_isRestless 4 = .ok (.iconst 1, 1) := by decide +kernel
theorem dX2_isRestless_5 : decode cX2_isRestless 5 = .ok (.invokevirtual 120, 3) := by decide +kernel
theorem dX2_isRestless_8 : decode cX2_isRestless 8 = .ok (.aload_n 0, 1) := by decide +kernel
theorem dX2_isRestless_9 : decode cX2_isRestless 9 = .ok (.aload_n 1, 1) := by decide +kernel
theorem dX2_isRestless_10 : decode cX2_isRestless 10 = .ok (.iconst 0, 1) := by decide +kernel
theorem dX2_isRestless_11 : decode cX2_isRestless 11 = .ok (.iconst 0, 1) := by decide +kernel
theorem dX2_isRestless_12 : decode cX2_isRestless 12 = .ok (.iconst 0, 1) := by decide +kernel
theorem dX2_isRestless_13 : decode cX2_isRestless 13 = .ok (.iconst (-1), 1) := by decide +kernel
theorem dX2_isRestless_14 : decode cX2_isRestless 14 = .ok (.invokevirtual 124, 3) := by decide +kernel
theorem dX2_isRestless_17 : decode cX2_isRestless 17 = .ok (.istore_n 3, 1) := by decide +kernel
theorem dX2_isRestless_18 : decode cX2_isRestless 18 = .ok (.aload_n 0, 1) := by decide +kernel
theorem dX2_isRestless_19 : decode cX2_isRestless 19 = .ok (.iload_n 3, 1) := by decide +kernel
theorem dX2_isRestless_20 : decode cX2_isRestless 20 = .ok (.putfield 31, 3) := by decide +kernel
theorem dX2_isRestless_23 : decode cX2_isRestless 23 = .ok (.aload_n 0, 1) := by decide +kernel
theorem dX2_isRestless_24 : decode cX2_isRestless 24 = .ok (.aload_n 1, 1) := by decide +kernel
theorem dX2_isRestless_25 : decode cX2_isRestless 25 = .ok (.iconst 0, 1) := by decide +kernel
theorem dX2_isRestless_26 : decode cX2_isRestless 26 = .ok (.invokevirtual 127, 3) := by decide +kernel
theorem dX2_isRestless_29 : decode cX2_isRestless 29 = .ok (.aload_n 0, 1) := by decide +kernel
theorem dX2_isRestless_30 : decode cX2_isRestless 30 = .ok (.getfield 31, 3) := by decide +kernel
theorem dX2_isRestless_33 : decode cX2_isRestless 33 = .ok (.iload_n 3, 1) := by decide +kernel
theorem dX2_isRestless_34 : decode cX2_isRestless 34 = .ok (.if_icmp .le 7, 3) := by decide +kernel
theorem dX2_isRestless_37 : decode cX2_isRestless 37 = .ok (.iconst 1, 1) := by decide +kernel
theorem dX2_isRestless_38 : decode cX2_isRestless 38 = .ok (.goto 4, 3) := by decide +kernel
theorem dX2_isRestless_41 : decode cX2_isRestless 41 = .ok (.iconst 0, 1) := by decide +kernel
theorem dX2_isRestless_42 : decode cX2_isRestless 42 = .ok (.ireturn, 1) := by decide +kernel
theorem dX3_copyFrom_0 : decode cX3_copyFrom 0 = .ok (.aload_n 0, 1) := by decide +kernel
theorem dX3_copyFrom_1 : decode cX3_copyFrom 1 = .ok (.aload_n 1, 1) := by decide +kernel
theorem dX3_copyFrom_2 : decode cX3_copyFrom 2 = .ok (.getfield 9, 3) := by decide +kernel
theorem dX3_copyFrom_5 : decode cX3_copyFrom 5 = .ok (.putfield 9, 3) := by decide +kernel
theorem dX3_copyFrom_8 : decode cX3_copyFrom 8 = .ok (.aload_n 0, 1) := by decide +kernel
theorem dX3_copyFrom_9 : decode cX3_copyFrom 9 = .ok (.aload_n 1, 1) := by decide +kernel
theorem dX3_copyFrom_10 : decode cX3_copyFrom 10 = .ok (.getfield 15, 3) := by decide +kernel
theorem dX3_copyFrom_13 : decode cX3_copyFrom 13 = .ok (.putfield 15, 3) := by decide +kernel
theorem dX3_copyFrom_16 : decode cX3_copyFrom 16 = .ok (.aload_n 0, 1) := by decide +kernel
theorem dX3_copyFrom_17 : decode cX3_copyFrom 17 = .ok (.aload_n 1, 1) := by decide +kernel
theorem dX3_copyFrom_18 : decode cX3_copyFrom 18 = .ok (.getfield 18, 3) := by decide +kernel
theorem dX3_copyFrom_21 : decode cX3_copyFrom 21 = .ok (.putfield 18, 3) := by decide +kernel
theorem dX3_copyFrom_24 : decode cX3_copyFrom 24 = .ok (.aload_n 0, 1) := by decide +kernel
theorem dX3_copyFrom_25 : decode cX3_copyFrom 25 = .ok (.aload_n 1, 1) := by decide +kernel
theorem dX3_copyFrom_26 : decode cX3_copyFrom 26 = .ok (.getfield 21, 3) := by decide +kernel
theorem dX3_copyFrom_29 : decode cX3_copyFrom 29 = .ok (.putfield 21, 3) := by decide +kernel
theorem dX3_copyFrom_32 : decode cX3_copyFrom 32 = .ok (.aload_n 0, 1) := by decide +kernel
theorem dX3_copyFrom_33 : decode cX3_copyFrom 33 = .ok (.aload_n 1, 1) := by decide +kernel
theorem dX3_copyFrom_34 : decode cX3_copyFrom 34 = .ok (.getfield 24, 3) := by decide +kernel
theorem dX3_copyFrom_37 : decode cX3_copyFrom 37 = .ok (.putfield 24, 3) := by decide +kernel
theorem dX3_copyFrom_40 : decode cX3_copyFrom 40 = .ok (.aload_n 0, 1) := by decide +kernel
theorem dX3_copyFrom_41 : decode cX3_copyFrom 41 = .ok (.aload_n 1, 1) := by decide +kernel
theorem dX3_copyFrom_42 : decode cX3_copyFrom 42 = .ok (.getfield 27, 3) := by decide +kernel
theorem dX3_copyFrom_45 : decode cX3_copyFrom 45 = .ok (.putfield 27, 3) := by decide +kernel
theorem dX3_copyFrom_48 : decode cX3_copyFrom 48 = .ok (.aload_n 0, 1) := by decide +kernel
theorem dX3_copyFrom_49 : decode cX3_copyFrom 49 = .ok (.aload_n 1, 1) := by decide +kernel
theorem dX3_copyFrom_50 : decode cX3_copyFrom 50 = .ok (.getfield 30, 3) := by decide +kernel
theorem dX3_copyFrom_53 : decode cX3_copyFrom 53 = .ok (.putfield 30, 3) := by decide +kernel
theorem dX3_copyFrom_56 : decode cX3_copyFrom 56 = .ok (.aload_n 0, 1) := by decide +kernel
theorem dX3_copyFrom_57 : decode cX3_copyFrom 57 = .ok (.aload_n 1, 1) := by decide +kernel
theorem dX3_copyFrom_58 : decode cX3_copyFrom 58 = .ok (.getfield 33, 3) := by decide +kernel
theorem dX3_copyFrom_61 : decode cX3_copyFrom 61 = .ok (.putfield 33, 3) := by decide +kernel
theorem dX3_copyFrom_64 : decode cX3_copyFrom 64 = .ok (.aload_n 0, 1) := by decide +kernel
theorem dX3_copyFrom_65 : decode cX3_copyFrom 65 = .ok (.aload_n 1, 1) := by decide +kernel
theorem dX3_copyFrom_66 : decode cX3_copyFrom 66 = .ok (.getfield 36, 3) := by decide +kernel
theorem dX3_copyFrom_69 : decode cX3_copyFrom 69 = .ok (.putfield 36, 3) := by decide +kernel
theorem dX3_copyFrom_72 : decode cX3_copyFrom 72 = .ok (.aload_n 0, 1) := by decide +kernel
theorem dX3_copyFrom_73 : decode cX3_copyFrom 73 = .ok (.aload_n 1, 1) := by decide +kernel
theorem dX3_copyFrom_74 : decode cX3_copyFrom 74 = .ok (.getfield 39, 3) := by decide +kernel
theorem dX3_copyFrom_77 : decode cX3_copyFrom 77 = .ok (.putfield 39, 3) := by decide +kernel
theorem dX3_copyFrom_80 : decode cX3_copyFrom 80 = .ok (.return_, 1) := by decide +kernel
theorem dX3_shown_0 : decode cX3_shown 0 = .ok (.aload_n 0, 1) := by decide +kernel
theorem dX3_shown_1 : decode cX3_shown 1 = .ok (.getfield 9, 3) := by decide +kernel
theorem dX3_shown_4 : decode cX3_shown 4 = .ok (.aload_n 0, 1) := by decide +kernel
theorem dX3_shown_5 : decode cX3_shown 5 = .ok (.getfield 15, 3) := by decide +kernel
theorem dX3_shown_8 : decode cX3_shown 8 = .ok (.isub, 1) := by decide +kernel
theorem dX3_shown_9 : decode cX3_shown 9 = .ok (.ireturn, 1) := by decide +kernel
theorem dX3_setHas_0 : decode cX3_setHas 0 = .ok (.iload_n 1, 1) := by decide +kernel
theorem dX3_setHas_1 : decode cX3_setHas 1 = .ok (.iload_n 2, 1) := by decide +kernel
theorem dX3_setHas_2 : decode cX3_setHas 2 = .ok (.if_icmp .le 7, 3) := by decide +kernel
theorem dX3_setHas_5 : decode cX3_setHas 5 = .ok (.iload_n 2, 1) := by decide +kernel
theorem dX3_setHas_6 : decode cX3_setHas 6 = .ok (.goto 4, 3) := by decide +kernel
theorem dX3_setHas_9 : decode cX3_setHas 9 = .ok (.iload_n 1, 1) := by decide +kernel
theorem dX3_setHas_10 : decode cX3_setHas 10 = .ok (.istore_n 3, 1) := by decide +kernel
theorem dX3_setHas_11 : decode cX3_setHas 11 = .ok (.aload_n 0, 1) := by decide +kernel
theorem dX3_setHas_12 : decode cX3_setHas 12 = .ok (.iload_n 3, 1) := by decide +kernel
theorem dX3_setHas_13 : decode cX3_setHas 13 = .ok (.ifCond .ge 7, 3) := by decide +kernel
theorem dX3_setHas_16 : decode cX3_setHas 16 = .ok (.iconst 0, 1) := by decide +kernel
theorem dX3_setHas_17 : decode cX3_setHas 17 = .ok (.goto 4, 3) := by decide +kernel
theorem dX3_setHas_20 : decode cX3_setHas 20 = .ok (.iload_n 3, 1) := by decide +kernel
theorem dX3_setHas_21 : decode cX3_setHas 21 = .ok (.putfield 9, 3) := by decide +kernel
theorem dX3_setHas_24 : decode cX3_setHas 24 = .ok (.aload_n 0, 1) := by decide +kernel
theorem dX3_setHas_25 : decode cX3_setHas 25 = .ok (.aload_n 0, 1) := by decide +kernel
theorem dX3_setHas_26 : decode cX3_setHas 26 = .ok (.getfield 15, 3) := by decide +kernel
theorem dX3_setHas_29 : decode cX3_setHas 29 = .ok (.aload_n 0, 1) := by decide +kernel
theorem dX3_setHas_30 : decode cX3_setHas 30 = .ok (.getfield 9, 3) := by decide +kernel
theorem dX3_setHas_33 : decode cX3_setHas 33 = .ok (.if_icmp .le 10, 3) := by decide +kernel
theorem dX3_setHas_36 : decode cX3_setHas 36 = .ok (.aload_n 0, 1) := by decide +kernel
theorem dX3_setHas_37 : decode cX3_setHas 37 = .ok (.getfield 9, 3) := by decide +kernel
theorem dX3_setHas_40 : decode cX3_setHas 40 = .ok (.goto 7, 3) := by decide +kernel
theorem dX3_setHas_43 : decode cX3_setHas 43 = .ok (.aload_n 0, 1) := by decide +kernel
theorem dX3_setHas_44 : decode cX3_setHas 44 = .ok (.getfield 15, 3) := by decide +kernel
theorem dX3_setHas_47 : decode cX3_setHas 47 = .ok (.putfield 15, 3) := by decide +kernel
theorem dX3_setHas_50 : decode cX3_setHas 50 = .ok (.return_, 1) := by decide +kernel
theorem dX3_pleasure_0 : decode cX3_pleasure 0 = .ok (.iload_n 1, 1) := by decide +kernel
theorem dX3_pleasure_1 : decode cX3_pleasure 1 = .ok (.ifCond .ne 7, 3) := by decide +kernel
theorem dX3_pleasure_4 : decode cX3_pleasure 4 = .ok (.iconst 0, 1) := by decide +kernel
theorem dX3_pleasure_5 : decode cX3_pleasure 5 = .ok (.goto 8, 3) := by decide +kernel
theorem dX3_pleasure_8 : decode cX3_pleasure 8 = .ok (.aload_n 0, 1) := by decide +kernel
theorem dX3_pleasure_9 : decode cX3_pleasure 9 = .ok (.getfield 30, 3) := by decide +kernel
theorem dX3_pleasure_12 : decode cX3_pleasure 12 = .ok (.ineg, 1) := by decide +kernel
theorem dX3_pleasure_13 : decode cX3_pleasure 13 = .ok (.istore_n 3, 1) := by decide +kernel
theorem dX3_pleasure_14 : decode cX3_pleasure 14 = .ok (.aload_n 0, 1) := by decide +kernel
theorem dX3_pleasure_15 : decode cX3_pleasure 15 = .ok (.getfield 36, 3) := by decide +kernel
theorem dX3_pleasure_18 : decode cX3_pleasure 18 = .ok (.istore 4, 2) := by decide +kernel
