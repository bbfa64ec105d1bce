theorem dX5_spans_31 : decode cX5_spans 31 = .ok (.ireturn, 1) := by decide +kernel
theorem dX6_add_0 : decode cX6_add 0 = .ok (.bipush 24, 2) := by decide +kernel
theorem dX6_add_2 : decode cX6_add 2 = .ok (.istore_n 2, 1) := by decide +kernel
theorem dX6_add_3 : decode cX6_add 3 = .ok (.iload_n 2, 1) := by decide +kernel
theorem dX6_add_4 : decode cX6_add 4 = .ok (.ifCond .lt 42, 3) := by decide +kernel
theorem dX6_add_7 : decode cX6_add 7 = .ok (.aload_n 0, 1) := by decide +kernel
theorem dX6_add_8 : decode cX6_add 8 = .ok (.getfield 26, 3) := by decide +kernel
theorem dX6_add_11 : decode cX6_add 11 = .ok (.sipush 1600, 3) := by decide +kernel
theorem dX6_add_14 : decode cX6_add 14 = .ok (.if_icmp .ge 32, 3) := by decide +kernel
theorem dX6_add_17 : decode cX6_add 17 = .ok (.aload_n 0, 1) := by decide +kernel
theorem dX6_add_18 : decode cX6_add 18 = .ok (.getfield 9, 3) := by decide +kernel
theorem dX6_add_21 : decode cX6_add 21 = .ok (.aload_n 0, 1) := by decide +kernel
theorem dX6_add_22 : decode cX6_add 22 = .ok (.getfield 26, 3) := by decide +kernel
theorem dX6_add_25 : decode cX6_add 25 = .ok (.iload_n 1, 1) := by decide +kernel
theorem dX6_add_26 : decode cX6_add 26 = .ok (.iload_n 2, 1) := by decide +kernel
theorem dX6_add_27 : decode cX6_add 27 = .ok (.ishr, 1) := by decide +kernel
theorem dX6_add_28 : decode cX6_add 28 = .ok (.i2b, 1) := by decide +kernel
theorem dX6_add_29 : decode cX6_add 29 = .ok (.bastore, 1) := by decide +kernel
theorem dX6_add_30 : decode cX6_add 30 = .ok (.aload_n 0, 1) := by decide +kernel
theorem dX6_add_31 : decode cX6_add 31 = .ok (.dup, 1) := by decide +kernel
theorem dX6_add_32 : decode cX6_add 32 = .ok (.getfield 26, 3) := by decide +kernel
theorem dX6_add_35 : decode cX6_add 35 = .ok (.iconst 1, 1) := by decide +kernel
theorem dX6_add_36 : decode cX6_add 36 = .ok (.iadd, 1) := by decide +kernel
theorem dX6_add_37 : decode cX6_add 37 = .ok (.putfield 26, 3) := by decide +kernel
theorem dX6_add_40 : decode cX6_add 40 = .ok (.iinc 2 (-8), 3) := by decide +kernel
theorem dX6_add_43 : decode cX6_add 43 = .ok (.goto (-40), 3) := by decide +kernel
theorem dX6_add_46 : decode cX6_add 46 = .ok (.return_, 1) := by decide +kernel
theorem dX6_read_0 : decode cX6_read 0 = .ok (.aload_n 0, 1) := by decide +kernel
theorem dX6_read_1 : decode cX6_read 1 = .ok (.getfield 18, 3) := by decide +kernel
theorem dX6_read_4 : decode cX6_read 4 = .ok (.invokevirtual 29, 3) := by decide +kernel
theorem dX6_read_7 : decode cX6_read 7 = .ok (.aload_n 0, 1) := by decide +kernel
theorem dX6_read_8 : decode cX6_read 8 = .ok (.iconst 0, 1) := by decide +kernel
theorem dX6_read_9 : decode cX6_read 9 = .ok (.putfield 32, 3) := by decide +kernel
theorem dX6_read_12 : decode cX6_read 12 = .ok (.aload_n 0, 1) := by decide +kernel
theorem dX6_read_13 : decode cX6_read 13 = .ok (.iconst 0, 1) := by decide +kernel
theorem dX6_read_14 : decode cX6_read 14 = .ok (.putfield 35, 3) := by decide +kernel
theorem dX6_read_17 : decode cX6_read 17 = .ok (.aload_n 0, 1) := by decide +kernel
theorem dX6_read_18 : decode cX6_read 18 = .ok (.iconst 0, 1) := by decide +kernel
theorem dX6_read_19 : decode cX6_read 19 = .ok (.putfield 39, 3) := by decide +kernel
theorem dX6_read_22 : decode cX6_read 22 = .ok (.aload_n 0, 1) := by decide +kernel
theorem dX6_read_23 : decode cX6_read 23 = .ok (.iconst 0, 1) := by decide +kernel
theorem dX6_read_24 : decode cX6_read 24 = .ok (.putfield 42, 3) := by decide +kernel
theorem dX6_read_27 : decode cX6_read 27 = .ok (.aload_n 0, 1) := by decide +kernel
theorem dX6_read_28 : decode cX6_read 28 = .ok (.iconst 0, 1) := by decide +kernel
theorem dX6_read_29 : decode cX6_read 29 = .ok (.putfield 45, 3) := by decide +kernel
theorem dX6_read_32 : decode cX6_read 32 = .ok (.aload_n 0, 1) := by decide +kernel
theorem dX6_read_33 : decode cX6_read 33 = .ok (.iconst (-1), 1) := by decide +kernel
theorem dX6_read_34 : decode cX6_read 34 = .ok (.putfield 22, 3) := by decide +kernel
theorem dX6_read_37 : decode cX6_read 37 = .ok (.aload_n 0, 1) := by decide +kernel
theorem dX6_read_38 : decode cX6_read 38 = .ok (.invokevirtual 48, 3) := by decide +kernel
theorem dX6_read_41 : decode cX6_read 41 = .ok (.iconst 0, 1) := by decide +kernel
theorem dX6_read_42 : decode cX6_read 42 = .ok (.istore_n 1, 1) := by decide +kernel
theorem dX6_read_43 : decode cX6_read 43 = .ok (.iload_n 1, 1) := by decide +kernel
theorem dX6_read_44 : decode cX6_read 44 = .ok (.aload_n 0, 1) := by decide +kernel
theorem dX6_read_45 : decode cX6_read 45 = .ok (.getfield 26, 3) := by decide +kernel
theorem dX6_read_48 : decode cX6_read 48 = .ok (.if_icmp .ge 131, 3) := by decide +kernel
theorem dX6_read_51 : decode cX6_read 51 = .ok (.aload_n 0, 1) := by decide +kernel
theorem dX6_read_52 : decode cX6_read 52 = .ok (.getfield 51, 3) := by decide +kernel
theorem dX6_read_55 : decode cX6_read 55 = .ok (.ifCond .eq 124, 3) := by decide +kernel
theorem dX6_read_58 : decode cX6_read 58 = .ok (.aload_n 0, 1) := by decide +kernel
theorem dX6_read_59 : decode cX6_read 59 = .ok (.getfield 45, 3) := by decide +kernel
theorem dX6_read_62 : decode cX6_read 62 = .ok (.ifCond .ne 117, 3) := by decide +kernel
theorem dX6_read_65 : decode cX6_read 65 = .ok (.aload_n 0, 1) := by decide +kernel
theorem dX6_read_66 : decode cX6_read 66 = .ok (.getfield 18, 3) := by decide +kernel
theorem dX6_read_69 : decode cX6_read 69 = .ok (.getfield 54, 3) := by decide +kernel
theorem dX6_read_72 : decode cX6_read 72 = .ok (.ifCond .ne 28, 3) := by decide +kernel
theorem dX6_read_75 : decode cX6_read 75 = .ok (.aload_n 0, 1) := by decide +kernel
theorem dX6_read_76 : decode cX6_read 76 = .ok (.ldc 57, 2) := by decide +kernel
theorem dX6_read_78 : decode cX6_read 78 = .ok (.invokevirtual 59, 3) := by decide +kernel
theorem dX6_read_81 : decode cX6_read 81 = .ok (.aload_n 0, 1) := by decide +kernel
theorem dX6_read_82 : decode cX6_read 82 = .ok (.getfield 18, 3) := by decide +kernel
theorem dX6_read_85 : decode cX6_read 85 = .ok (.aload_n 0, 1) := by decide +kernel
theorem dX6_read_86 : decode cX6_read 86 = .ok (.ldc 63, 2) := by decide +kernel
theorem dX6_read_88 : decode cX6_read 88 = .ok (.iconst 5, 1) := by decide +kernel
theorem dX6_read_89 : decode cX6_read 89 = .ok (.bipush 30, 2) := by decide +kernel
theorem dX6_read_91 : decode cX6_read 91 = .ok (.invokevirtual 65, 3) := by decide +kernel
theorem dX6_read_94 : decode cX6_read 94 = .ok (.putfield 69, 3) := by decide +kernel
theorem dX6_read_97 : decode cX6_read 97 = .ok (.goto 72, 3) := by decide +kernel
theorem dX6_read_100 : decode cX6_read 100 = .ok (.aload_n 0, 1) := by decide +kernel
theorem dX6_read_101 : decode cX6_read 101 = .ok (.ldc 71, 2) := by decide +kernel
theorem dX6_read_103 : decode cX6_read 103 = .ok (.invokevirtual 73, 3) := by decide +kernel
theorem dX6_read_106 : decode cX6_read 106 = .ok (.ifCond .eq 10, 3) := by decide +kernel
theorem dX6_read_109 : decode cX6_read 109 = .ok (.aload_n 0, 1) := by decide +kernel
theorem dX6_read_110 : decode cX6_read 110 = .ok (.invokevirtual 77, 3) := by decide +kernel
theorem dX6_read_113 : decode cX6_read 113 = .ok (.goto 56, 3) := by decide +kernel
theorem dX6_read_116 : decode cX6_read 116 = .ok (.aload_n 0, 1) := by decide +kernel
theorem dX6_read_117 : decode cX6_read 117 = .ok (.ldc 80, 2) := by decide +kernel
theorem dX6_read_119 : decode cX6_read 119 = .ok (.invokevirtual 73, 3) := by decide +kernel
theorem dX6_read_122 : decode cX6_read 122 = .ok (.ifCond .eq 10, 3) := by decide +kernel
theorem dX6_read_125 : decode cX6_read 125 = .ok (.aload_n 0, 1) := by decide +kernel
theorem dX6_read_126 : decode cX6_read 126 = .ok (.invokevirtual 82, 3) := by decide +kernel
theorem dX6_read_129 : decode cX6_read 129 = .ok (.goto 40, 3) := by decide +kernel
theorem dX6_read_132 : decode cX6_read 132 = .ok (.aload_n 0, 1) := by decide +kernel
theorem dX6_read_133 : decode cX6_read 133 = .ok (.ldc 85, 2) := by decide +kernel
theorem dX6_read_135 : decode cX6_read 135 = .ok (.invokevirtual 73, 3) := by decide +kernel
theorem dX6_read_138 : decode cX6_read 138 = .ok (.ifCond .eq 10, 3) := by decide +kernel
theorem dX6_read_141 : decode cX6_read 141 = .ok (.aload_n 0, 1) := by decide +kernel
theorem dX6_read_142 : decode cX6_read 142 = .ok (.invokevirtual 87, 3) := by decide +kernel
theorem dX6_read_145 : decode cX6_read 145 = .ok (.goto 24, 3) := by decide +kernel
theorem dX6_read_148 : decode cX6_read 148 = .ok (.aload_n 0, 1) := by decide +kernel
theorem dX6_read_149 : decode cX6_read 149 = .ok (.ldc 90, 2) := by decide +kernel
theorem dX6_read_151 : decode cX6_read 151 = .ok (.invokevirtual 73, 3) := by decide +kernel
theorem dX6_read_154 : decode cX6_read 154 = .ok (.ifCond .eq 10, 3) := by decide +kernel
theorem dX6_read_157 : decode cX6_read 157 = .ok (.aload_n 0, 1) := by decide +kernel
theorem dX6_read_158 : decode cX6_read 158 = .ok (.invokevirtual 92, 3) := by decide +kernel
theorem dX6_read_161 : decode cX6_read 161 = .ok (.goto 8, 3) := by decide +kernel
theorem dX6_read_164 : decode cX6_read 164 = .ok (.aload_n 0, 1) := by decide +kernel
theorem dX6_read_165 : decode cX6_read 165 = .ok (.iconst 1, 1) := by decide +kernel
theorem dX6_read_166 : decode cX6_read 166 = .ok (.invokevirtual 95, 3) := by decide +kernel
theorem dX6_read_169 : decode cX6_read 169 = .ok (.aload_n 0, 1) := by decide +kernel
theorem dX6_read_170 : decode cX6_read 170 = .ok (.invokevirtual 99, 3) := by decide +kernel
theorem dX6_read_173 : decode cX6_read 173 = .ok (.iinc 1 1, 3) := by decide +kernel
theorem dX6_read_176 : decode cX6_read 176 = .ok (.goto (-133), 3) := by decide +kernel
theorem dX6_read_179 : decode cX6_read 179 = .ok (.aload_n 0, 1) := by decide +kernel
theorem dX6_read_180 : decode cX6_read 180 = .ok (.getfield 45, 3) := by decide +kernel
theorem dX6_read_183 : decode cX6_read 183 = .ok (.ifCond .ne 7, 3) := by decide +kernel
theorem dX6_read_186 : decode cX6_read 186 = .ok (.iconst 1, 1) := by decide +kernel
theorem dX6_read_187 : decode cX6_read 187 = .ok (.goto 4, 3) := by decide +kernel
theorem dX6_read_190 : decode cX6_read 190 = .ok (.iconst 0, 1) := by decide +kernel
theorem dX6_read_191 : decode cX6_read 191 = .ok (.ireturn, 1) := by decide +kernel
theorem dX6_readSign_0 : decode cX6_readSign 0 = .ok (.aload_n 0, 1) := by decide +kernel
theorem dX6_readSign_1 : decode cX6_readSign 1 = .ok (.getfield 45, 3) := by decide +kernel
theorem dX6_readSign_4 : decode cX6_readSign 4 = .ok (.ifCond .ne 31, 3) := by decide +kernel
theorem dX6_readSign_7 : decode cX6_readSign 7 = .ok (.aload_n 0, 1) := by decide +kernel
theorem dX6_readSign_8 : decode cX6_readSign 8 = .ok (.getfield 51, 3) := by decide +kernel
theorem dX6_readSign_11 : decode cX6_readSign 11 = .ok (.iconst 3, 1) := by decide +kernel
theorem dX6_readSign_12 : decode cX6_readSign 12 = .ok (.if_icmp .ne 23, 3) := by decide +kernel
theorem dX6_readSign_15 : decode cX6_readSign 15 = .ok (.aload_n 0, 1) := by decide +kernel
theorem dX6_readSign_16 : decode cX6_readSign 16 = .ok (.getfield 18, 3) := by decide +kernel
theorem dX6_readSign_19 : decode cX6_readSign 19 = .ok (.dup, 1) := by decide +kernel
theorem dX6_readSign_20 : decode cX6_readSign 20 = .ok (.getfield 54, 3) := by decide +kernel
theorem dX6_readSign_23 : decode cX6_readSign 23 = .ok (.iconst 1, 1) := by decide +kernel
theorem dX6_readSign_24 : decode cX6_readSign 24 = .ok (.iadd, 1) := by decide +kernel
theorem dX6_readSign_25 : decode cX6_readSign 25 = .ok (.putfield 54, 3) := by decide +kernel
theorem dX6_readSign_28 : decode cX6_readSign 28 = .ok (.aload_n 0, 1) := by decide +kernel
theorem dX6_readSign_29 : decode cX6_readSign 29 = .ok (.invokevirtual 48, 3) := by decide +kernel
theorem dX6_readSign_32 : decode cX6_readSign 32 = .ok (.goto 8, 3) := by decide +kernel
theorem dX6_readSign_35 : decode cX6_readSign 35 = .ok (.aload_n 0, 1) := by decide +kernel
theorem dX6_readSign_36 : decode cX6_readSign 36 = .ok (.iconst 1, 1) := by decide +kernel
theorem dX6_readSign_37 : decode cX6_readSign 37 = .ok (.invokevirtual 95, 3) := by decide +kernel
theorem dX6_readSign_40 : decode cX6_readSign 40 = .ok (.return_, 1) := by decide +kernel
theorem dX6_fail_0 : decode cX6_fail 0 = .ok (.aload_n 0, 1) := by decide +kernel
theorem dX6_fail_1 : decode cX6_fail 1 = .ok (.getfield 45, 3) := by decide +kernel
theorem dX6_fail_4 : decode cX6_fail 4 = .ok (.ifCond .ne 16, 3) := by decide +kernel
theorem dX6_fail_7 : decode cX6_fail 7 = .ok (.aload_n 0, 1) := by decide +kernel
theorem dX6_fail_8 : decode cX6_fail 8 = .ok (.iload_n 1, 1) := by decide +kernel
theorem dX6_fail_9 : decode cX6_fail 9 = .ok (.putfield 45, 3) := by decide +kernel
theorem dX6_fail_12 : decode cX6_fail 12 = .ok (.aload_n 0, 1) := by decide +kernel
theorem dX6_fail_13 : decode cX6_fail 13 = .ok (.aload_n 0, 1) := by decide +kernel
theorem dX6_fail_14 : decode cX6_fail 14 = .ok (.getfield 102, 3) := by decide +kernel
theorem dX6_fail_17 : decode cX6_fail 17 = .ok (.putfield 22, 3) := by decide +kernel
theorem dX6_fail_20 : decode cX6_fail 20 = .ok (.return_, 1) := by decide +kernel
theorem dX6_kindOf_0 : decode cX6_kindOf 0 = .ok (.iload_n 0, 1) := by decide +kernel
theorem dX6_kindOf_1 : decode cX6_kindOf 1 = .ok (.bipush 97, 2) := by decide +kernel
theorem dX6_kindOf_3 : decode cX6_kindOf 3 = .ok (.if_icmp .lt 11, 3) := by decide +kernel
theorem dX6_kindOf_6 : decode cX6_kindOf 6 = .ok (.iload_n 0, 1) := by decide +kernel
theorem dX6_kindOf_7 : decode cX6_kindOf 7 = .ok (.bipush 122, 2) := by decide +kernel
theorem dX6_kindOf_9 : decode cX6_kindOf 9 = .ok (.if_icmp .gt 5, 3) := by decide +kernel
theorem dX6_kindOf_12 : decode cX6_kindOf 12 = .ok (.iconst 1, 1) := by decide +kernel
theorem dX6_kindOf_13 : decode cX6_kindOf 13 = .ok (.ireturn, 1) := by decide +kernel
theorem dX6_kindOf_14 : decode cX6_kindOf 14 = .ok (.iload_n 0, 1) := by decide +kernel
theorem dX6_kindOf_15 : decode cX6_kindOf 15 = .ok (.bipush 48, 2) := by decide +kernel
theorem dX6_kindOf_17 : decode cX6_kindOf 17 = .ok (.if_icmp .lt 11, 3) := by decide +kernel
theorem dX6_kindOf_20 : decode cX6_kindOf 20 = .ok (.iload_n 0, 1) := by decide +kernel
theorem dX6_kindOf_21 : decode cX6_kindOf 21 = .ok (.bipush 57, 2) := by decide +kernel
theorem dX6_kindOf_23 : decode cX6_kindOf 23 = .ok (.if_icmp .gt 5, 3) := by decide +kernel
theorem dX6_kindOf_26 : decode cX6_kindOf 26 = .ok (.iconst 2, 1) := by decide +kernel
theorem dX6_kindOf_27 : decode cX6_kindOf 27 = .ok (.ireturn, 1) := by decide +kernel
theorem dX6_kindOf_28 : decode cX6_kindOf 28 = .ok (.iload_n 0, 1) := by decide +kernel
theorem dX6_kindOf_29 : decode cX6_kindOf 29 = .ok (.bipush 59, 2) := by decide +kernel
theorem dX6_kindOf_31 : decode cX6_kindOf 31 = .ok (.if_icmp .ne 7, 3) := by decide +kernel
theorem dX6_kindOf_34 : decode cX6_kindOf 34 = .ok (.iconst 3, 1) := by decide +kernel
theorem dX6_kindOf_35 : decode cX6_kindOf 35 = .ok (.goto 4, 3) := by decide +kernel
theorem dX6_kindOf_38 : decode cX6_kindOf 38 = .ok (.iconst 4, 1) := by decide +kernel
theorem dX6_kindOf_39 : decode cX6_kindOf 39 = .ok (.ireturn, 1) := by decide +kernel
theorem dX6_advance_0 : decode cX6_advance 0 = .ok (.aload_n 0, 1) := by decide +kernel
theorem dX6_advance_1 : decode cX6_advance 1 = .ok (.aload_n 0, 1) := by decide +kernel
theorem dX6_advance_2 : decode cX6_advance 2 = .ok (.getfield 32, 3) := by decide +kernel
theorem dX6_advance_5 : decode cX6_advance 5 = .ok (.putfield 102, 3) := by decide +kernel
theorem dX6_advance_8 : decode cX6_advance 8 = .ok (.aload_n 0, 1) := by decide +kernel
theorem dX6_advance_9 : decode cX6_advance 9 = .ok (.getfield 102, 3) := by decide +kernel
theorem dX6_advance_12 : decode cX6_advance 12 = .ok (.aload_n 0, 1) := by decide +kernel
theorem dX6_advance_13 : decode cX6_advance 13 = .ok (.getfield 26, 3) := by decide +kernel
theorem dX6_advance_16 : decode cX6_advance 16 = .ok (.if_icmp .ge 44, 3) := by decide +kernel
theorem dX6_advance_19 : decode cX6_advance 19 = .ok (.aload_n 0, 1) := by decide +kernel
theorem dX6_advance_20 : decode cX6_advance 20 = .ok (.getfield 9, 3) := by decide +kernel
theorem dX6_advance_23 : decode cX6_advance 23 = .ok (.aload_n 0, 1) := by decide +kernel
theorem dX6_advance_24 : decode cX6_advance 24 = .ok (.getfield 102, 3) := by decide +kernel
theorem dX6_advance_27 : decode cX6_advance 27 = .ok (.baload, 1) := by decide +kernel
theorem dX6_advance_28 : decode cX6_advance 28 = .ok (.bipush 32, 2) := by decide +kernel
theorem dX6_advance_30 : decode cX6_advance 30 = .ok (.if_icmp .eq 17, 3) := by decide +kernel
theorem dX6_advance_33 : decode cX6_advance 33 = .ok (.aload_n 0, 1) := by decide +kernel
theorem dX6_advance_34 : decode cX6_advance 34 = .ok (.getfield 9, 3) := by decide +kernel
theorem dX6_advance_37 : decode cX6_advance 37 = .ok (.aload_n 0, 1) := by decide +kernel
theorem dX6_advance_38 : decode cX6_advance 38 = .ok (.getfield 102, 3) := by decide +kernel
theorem dX6_advance_41 : decode cX6_advance 41 = .ok (.baload, 1) := by decide +kernel
theorem dX6_advance_42 : decode cX6_advance 42 = .ok (.bipush 10, 2) := by decide +kernel
theorem dX6_advance_44 : decode cX6_advance 44 = .ok (.if_icmp .ne 16, 3) := by decide +kernel
theorem dX6_advance_47 : decode cX6_advance 47 = .ok (.aload_n 0, 1) := by decide +kernel
theorem dX6_advance_48 : decode cX6_advance 48 = .ok (.dup, 1) := by decide +kernel
theorem dX6_advance_49 : decode cX6_advance 49 = .ok (.getfield 102, 3) := by decide +kernel
theorem dX6_advance_52 : decode cX6_advance 52 = .ok (.iconst 1, 1) := by decide +kernel
theorem dX6_advance_53 : decode cX6_advance 53 = .ok (.iadd, 1) := by decide +kernel
theorem dX6_advance_54 : decode cX6_advance 54 = .ok (.putfield 102, 3) := by decide +kernel
theorem dX6_advance_57 : decode cX6_advance 57 = .ok (.goto (-49), 3) := by decide +kernel
theorem dX6_advance_60 : decode cX6_advance 60 = .ok (.aload_n 0, 1) := by decide +kernel
theorem dX6_advance_61 : decode cX6_advance 61 = .ok (.aload_n 0, 1) := by decide +kernel
theorem dX6_advance_62 : decode cX6_advance 62 = .ok (.getfield 102, 3) := by decide +kernel
theorem dX6_advance_65 : decode cX6_advance 65 = .ok (.putfield 32, 3) := by decide +kernel
theorem dX6_advance_68 : decode cX6_advance 68 = .ok (.aload_n 0, 1) := by decide +kernel
theorem dX6_advance_69 : decode cX6_advance 69 = .ok (.getfield 102, 3) := by decide +kernel
theorem dX6_advance_72 : decode cX6_advance 72 = .ok (.aload_n 0, 1) := by decide +kernel
theorem dX6_advance_73 : decode cX6_advance 73 = .ok (.getfield 26, 3) := by decide +kernel
theorem dX6_advance_76 : decode cX6_advance 76 = .ok (.if_icmp .lt 9, 3) := by decide +kernel
theorem dX6_advance_79 : decode cX6_advance 79 = .ok (.aload_n 0, 1) := by decide +kernel
theorem dX6_advance_80 : decode cX6_advance 80 = .ok (.iconst 0, 1) := by decide +kernel
theorem dX6_advance_81 : decode cX6_advance 81 = .ok (.putfield 51, 3) := by decide +kernel
theorem dX6_advance_84 : decode cX6_advance 84 = .ok (.return_, 1) := by decide +kernel
theorem dX6_advance_85 : decode cX6_advance 85 = .ok (.aload_n 0, 1) := by decide +kernel
theorem dX6_advance_86 : decode cX6_advance 86 = .ok (.aload_n 0, 1) := by decide +kernel
theorem dX6_advance_87 : decode cX6_advance 87 = .ok (.getfield 9, 3) := by decide +kernel
theorem dX6_advance_90 : decode cX6_advance 90 = .ok (.aload_n 0, 1) := by decide +kernel
theorem dX6_advance_91 : decode cX6_advance 91 = .ok (.getfield 102, 3) := by decide +kernel
theorem dX6_advance_94 : decode cX6_advance 94 = .ok (.baload, 1) := by decide +kernel
theorem dX6_advance_95 : decode cX6_advance 95 = .ok (.invokestatic 105, 3) := by decide +kernel
theorem dX6_advance_98 : decode cX6_advance 98 = .ok (.putfield 51, 3) := by decide +kernel
theorem dX6_advance_101 : decode cX6_advance 101 = .ok (.aload_n 0, 1) := by decide +kernel
theorem dX6_advance_102 : decode cX6_advance 102 = .ok (.dup, 1) := by decide +kernel
theorem dX6_advance_103 : decode cX6_advance 103 = .ok (.getfield 32, 3) := by decide +kernel
theorem dX6_advance_106 : decode cX6_advance 106 = .ok (.iconst 1, 1) := by decide +kernel
theorem dX6_advance_107 : decode cX6_advance 107 = .ok (.iadd, 1) := by decide +kernel
theorem dX6_advance_108 : decode cX6_advance 108 = .ok (.putfield 32, 3) := by decide +kernel
theorem dX6_advance_111 : decode cX6_advance 111 = .ok (.aload_n 0, 1) := by decide +kernel
theorem dX6_advance_112 : decode cX6_advance 112 = .ok (.getfield 32, 3) := by decide +kernel
theorem dX6_advance_115 : decode cX6_advance 115 = .ok (.aload_n 0, 1) := by decide +kernel
theorem dX6_advance_116 : decode cX6_advance 116 = .ok (.getfield 26, 3) := by decide +kernel
theorem dX6_advance_119 : decode cX6_advance 119 = .ok (.if_icmp .ge 43, 3) := by decide +kernel
theorem dX6_advance_122 : decode cX6_advance 122 = .ok (.aload_n 0, 1) := by decide +kernel
theorem dX6_advance_123 : decode cX6_advance 123 = .ok (.getfield 51, 3) := by decide +kernel
theorem dX6_advance_126 : decode cX6_advance 126 = .ok (.iconst 2, 1) := by decide +kernel
theorem dX6_advance_127 : decode cX6_advance 127 = .ok (.if_icmp .gt 35, 3) := by decide +kernel
theorem dX6_advance_130 : decode cX6_advance 130 = .ok (.aload_n 0, 1) := by decide +kernel
theorem dX6_advance_131 : decode cX6_advance 131 = .ok (.getfield 9, 3) := by decide +kernel
theorem dX6_advance_134 : decode cX6_advance 134 = .ok (.aload_n 0, 1) := by decide +kernel
theorem dX6_advance_135 : decode cX6_advance 135 = .ok (.getfield 32, 3) := by decide +kernel
theorem dX6_advance_138 : decode cX6_advance 138 = .ok (.baload, 1) := by decide +kernel
theorem dX6_advance_139 : decode cX6_advance 139 = .ok (.invokestatic 105, 3) := by decide +kernel
theorem dX6_advance_142 : decode cX6_advance 142 = .ok (.aload_n 0, 1) := by decide +kernel
theorem dX6_advance_143 : decode cX6_advance 143 = .ok (.getfield 51, 3) := by decide +kernel
theorem dX6_advance_146 : decode cX6_advance 146 = .ok (.if_icmp .ne 16, 3) := by decide +kernel
theorem dX6_advance_149 : decode cX6_advance 149 = .ok (.aload_n 0, 1) := by decide +kernel
theorem dX6_advance_150 : decode cX6_advance 150 = .ok (.dup, 1) := by decide +kernel
theorem dX6_advance_151 : decode cX6_advance 151 = .ok (.getfield 32, 3) := by decide +kernel
theorem dX6_advance_154 : decode cX6_advance 154 = .ok (.iconst 1, 1) := by decide +kernel
theorem dX6_advance_155 : decode cX6_advance 155 = .ok (.iadd, 1) := by decide +kernel
theorem dX6_advance_156 : decode cX6_advance 156 = .ok (.putfield 32, 3) := by decide +kernel
theorem dX6_advance_159 : decode cX6_advance 159 = .ok (.goto (-48), 3) := by decide +kernel
theorem dX6_advance_162 : decode cX6_advance 162 = .ok (.aload_n 0, 1) := by decide +kernel
theorem dX6_advance_163 : decode cX6_advance 163 = .ok (.iconst 0, 1) := by decide +kernel
theorem dX6_advance_164 : decode cX6_advance 164 = .ok (.putfield 109, 3) := by decide +kernel
theorem dX6_advance_167 : decode cX6_advance 167 = .ok (.aload_n 0, 1) := by decide +kernel
theorem dX6_advance_168 : decode cX6_advance 168 = .ok (.getfield 102, 3) := by decide +kernel
theorem dX6_advance_171 : decode cX6_advance 171 = .ok (.istore_n 1, 1) := by decide +kernel
theorem dX6_advance_172 : decode cX6_advance 172 = .ok (.iload_n 1, 1) := by decide +kernel
theorem dX6_advance_173 : decode cX6_advance 173 = .ok (.aload_n 0, 1) := by decide +kernel
theorem dX6_advance_174 : decode cX6_advance 174 = .ok (.getfield 32, 3) := by decide +kernel
theorem dX6_advance_177 : decode cX6_advance 177 = .ok (.if_icmp .ge 43, 3) := by decide +kernel
theorem dX6_advance_180 : decode cX6_advance 180 = .ok (.aload_n 0, 1) := by decide +kernel
theorem dX6_advance_181 : decode cX6_advance 181 = .ok (.getfield 51, 3) := by decide +kernel
theorem dX6_advance_184 : decode cX6_advance 184 = .ok (.iconst 2, 1) := by decide +kernel
theorem dX6_advance_185 : decode cX6_advance 185 = .ok (.if_icmp .ne 35, 3) := by decide +kernel
theorem dX6_advance_188 : decode cX6_advance 188 = .ok (.aload_n 0, 1) := by decide +kernel
theorem dX6_advance_189 : decode cX6_advance 189 = .ok (.ldc 112, 2) := by decide +kernel
theorem dX6_advance_191 : decode cX6_advance 191 = .ok (.aload_n 0, 1) := by decide +kernel
theorem dX6_advance_192 : decode cX6_advance 192 = .ok (.getfield 109, 3) := by decide +kernel
theorem dX6_advance_195 : decode cX6_advance 195 = .ok (.bipush 10, 2) := by decide +kernel
theorem dX6_advance_197 : decode cX6_advance 197 = .ok (.imul, 1) := by decide +kernel
theorem dX6_advance_198 : decode cX6_advance 198 = .ok (.aload_n 0, 1) := by decide +kernel
theorem dX6_advance_199 : decode cX6_advance 199 = .ok (.getfield 9, 3) := by decide +kernel
theorem dX6_advance_202 : decode cX6_advance 202 = .ok (.iload_n 1, 1) := by decide +kernel
theorem dX6_advance_203 : decode cX6_advance 203 = .ok (.baload, 1) := by decide +kernel
theorem dX6_advance_204 : decode cX6_advance 204 = .ok (.iadd, 1) := by decide +kernel
theorem dX6_advance_205 : decode cX6_advance 205 = .ok (.bipush 48, 2) := by decide +kernel
theorem dX6_advance_207 : decode cX6_advance 207 = .ok (.isub, 1) := by decide +kernel
theorem dX6_advance_208 : decode cX6_advance 208 = .ok (.invokestatic 113, 3) := by decide +kernel
theorem dX6_advance_211 : decode cX6_advance 211 = .ok (.putfield 109, 3) := by decide +kernel
theorem dX6_advance_214 : decode cX6_advance 214 = .ok (.iinc 1 1, 3) := by decide +kernel
theorem dX6_advance_217 : decode cX6_advance 217 = .ok (.goto (-45), 3) := by decide +kernel
theorem dX6_advance_220 : decode cX6_advance 220 = .ok (.return_, 1) := by decide +kernel
theorem dX6_isAt_0 : decode cX6_isAt 0 = .ok (.aload_n 0, 1) := by decide +kernel
theorem dX6_isAt_1 : decode cX6_isAt 1 = .ok (.getfield 51, 3) := by decide +kernel
theorem dX6_isAt_4 : decode cX6_isAt 4 = .ok (.iconst 1, 1) := by decide +kernel
theorem dX6_isAt_5 : decode cX6_isAt 5 = .ok (.if_icmp .ne 19, 3) := by decide +kernel
theorem dX6_isAt_8 : decode cX6_isAt 8 = .ok (.aload_n 0, 1) := by decide +kernel
theorem dX6_isAt_9 : decode cX6_isAt 9 = .ok (.getfield 32, 3) := by decide +kernel
theorem dX6_isAt_12 : decode cX6_isAt 12 = .ok (.aload_n 0, 1) := by decide +kernel
theorem dX6_isAt_13 : decode cX6_isAt 13 = .ok (.getfield 102, 3) := by decide +kernel
theorem dX6_isAt_16 : decode cX6_isAt 16 = .ok (.isub, 1) := by decide +kernel
theorem dX6_isAt_17 : decode cX6_isAt 17 = .ok (.aload_n 1, 1) := by decide +kernel
theorem dX6_isAt_18 : decode cX6_isAt 18 = .ok (.invokevirtual 119, 3) := by decide +kernel
theorem dX6_isAt_21 : decode cX6_isAt 21 = .ok (.if_icmp .eq 5, 3) := by decide +kernel
theorem dX6_isAt_24 : decode cX6_isAt 24 = .ok (.iconst 0, 1) := by decide +kernel
theorem dX6_isAt_25 : decode cX6_isAt 25 = .ok (.ireturn, 1) := by decide +kernel
theorem dX6_isAt_26 : decode cX6_isAt 26 = .ok (.iconst 0, 1) := by decide +kernel
theorem dX6_isAt_27 : decode cX6_isAt 27 = .ok (.istore_n 2, 1) := by decide +kernel
theorem dX6_isAt_28 : decode cX6_isAt 28 = .ok (.iload_n 2, 1) := by decide +kernel
theorem dX6_isAt_29 : decode cX6_isAt 29 = .ok (.aload_n 1, 1) := by decide +kernel
theorem dX6_isAt_30 : decode cX6_isAt 30 = .ok (.invokevirtual 119, 3) := by decide +kernel
theorem dX6_isAt_33 : decode cX6_isAt 33 = .ok (.if_icmp .ge 43, 3) := by decide +kernel
theorem dX6_isAt_36 : decode cX6_isAt 36 = .ok (.aload_n 0, 1) := by decide +kernel
theorem dX6_isAt_37 : decode cX6_isAt 37 = .ok (.getfield 102, 3) := by decide +kernel
theorem dX6_isAt_40 : decode cX6_isAt 40 = .ok (.iload_n 2, 1) := by decide +kernel
theorem dX6_isAt_41 : decode cX6_isAt 41 = .ok (.iadd, 1) := by decide +kernel
theorem dX6_isAt_42 : decode cX6_isAt 42 = .ok (.aload_n 0, 1) := by decide +kernel
theorem dX6_isAt_43 : decode cX6_isAt 43 = .ok (.getfield 26, 3) := by decide +kernel
theorem dX6_isAt_46 : decode cX6_isAt 46 = .ok (.if_icmp .ge 30, 3) := by decide +kernel
theorem dX6_isAt_49 : decode cX6_isAt 49 = .ok (.aload_n 0, 1) := by decide +kernel
theorem dX6_isAt_50 : decode cX6_isAt 50 = .ok (.getfield 9, 3) := by decide +kernel
theorem dX6_isAt_53 : decode cX6_isAt 53 = .ok (.aload_n 0, 1) := by decide +kernel
theorem dX6_isAt_54 : decode cX6_isAt 54 = .ok (.getfield 102, 3) := by decide +kernel
theorem dX6_isAt_57 : decode cX6_isAt 57 = .ok (.iload_n 2, 1) := by decide +kernel
theorem dX6_isAt_58 : decode cX6_isAt 58 = .ok (.iadd, 1) := by decide +kernel
theorem dX6_isAt_59 : decode cX6_isAt 59 = .ok (.baload, 1) := by decide +kernel
theorem dX6_isAt_60 : decode cX6_isAt 60 = .ok (.aload_n 1, 1) := by decide +kernel
theorem dX6_isAt_61 : decode cX6_isAt 61 = .ok (.iload_n 2, 1) := by decide +kernel
theorem dX6_isAt_62 : decode cX6_isAt 62 = .ok (.invokevirtual 125, 3) := by decide +kernel
theorem dX6_isAt_65 : decode cX6_isAt 65 = .ok (.if_icmp .eq 5, 3) := by decide +kernel
theorem dX6_isAt_68 : decode cX6_isAt 68 = .ok (.iconst 0, 1) := by decide +kernel
theorem dX6_isAt_69 : decode cX6_isAt 69 = .ok (.ireturn, 1) := by decide +kernel
theorem dX6_isAt_70 : decode cX6_isAt 70 = .ok (.iinc 2 1, 3) := by decide +kernel
theorem dX6_isAt_73 : decode cX6_isAt 73 = .ok (.goto (-45), 3) := by decide +kernel
theorem dX6_isAt_76 : decode cX6_isAt 76 = .ok (.iconst 1, 1) := by decide +kernel
theorem dX6_isAt_77 : decode cX6_isAt 77 = .ok (.ireturn, 1) := by decide +kernel
theorem dX6_takes_0 : decode cX6_takes 0 = .ok (.aload_n 0, 1) := by decide +kernel
theorem dX6_takes_1 : decode cX6_takes 1 = .ok (.getfield 45, 3) := by decide +kernel
theorem dX6_takes_4 : decode cX6_takes 4 = .ok (.ifCond .ne 11, 3) := by decide +kernel
theorem dX6_takes_7 : decode cX6_takes 7 = .ok (.aload_n 0, 1) := by decide +kernel
theorem dX6_takes_8 : decode cX6_takes 8 = .ok (.aload_n 1, 1) := by decide +kernel
theorem dX6_takes_9 : decode cX6_takes 9 = .ok (.invokevirtual 73, 3) := by decide +kernel
theorem dX6_takes_12 : decode cX6_takes 12 = .ok (.ifCond .ne 5, 3) := by decide +kernel
theorem dX6_takes_15 : decode cX6_takes 15 = .ok (.iconst 0, 1) := by decide +kernel
theorem dX6_takes_16 : decode cX6_takes 16 = .ok (.ireturn, 1) := by decide +kernel
theorem dX6_takes_17 : decode cX6_takes 17 = .ok (.aload_n 0, 1) := by decide +kernel
theorem dX6_takes_18 : decode cX6_takes 18 = .ok (.invokevirtual 48, 3) := by decide +kernel
theorem dX6_takes_21 : decode cX6_takes 21 = .ok (.iconst 1, 1) := by decide +kernel
theorem dX6_takes_22 : decode cX6_takes 22 = .ok (.ireturn, 1) := by decide +kernel
theorem dX6_take_0 : decode cX6_take 0 = .ok (.aload_n 0, 1) := by decide +kernel
theorem dX6_take_1 : decode cX6_take 1 = .ok (.getfield 45, 3) := by decide +kernel
theorem dX6_take_4 : decode cX6_take 4 = .ok (.ifCond .ne 18, 3) := by decide +kernel
theorem dX6_take_7 : decode cX6_take 7 = .ok (.aload_n 0, 1) := by decide +kernel
theorem dX6_take_8 : decode cX6_take 8 = .ok (.aload_n 1, 1) := by decide +kernel
theorem dX6_take_9 : decode cX6_take 9 = .ok (.invokevirtual 73, 3) := by decide +kernel
theorem dX6_take_12 : decode cX6_take 12 = .ok (.ifCond .eq 10, 3) := by decide +kernel
theorem dX6_take_15 : decode cX6_take 15 = .ok (.aload_n 0, 1) := by decide +kernel
theorem dX6_take_16 : decode cX6_take 16 = .ok (.invokevirtual 48, 3) := by decide +kernel
theorem dX6_take_19 : decode cX6_take 19 = .ok (.goto 8, 3) := by decide +kernel
theorem dX6_take_22 : decode cX6_take 22 = .ok (.aload_n 0, 1) := by decide +kernel
theorem dX6_take_23 : decode cX6_take 23 = .ok (.iconst 1, 1) := by decide +kernel
theorem dX6_take_24 : decode cX6_take 24 = .ok (.invokevirtual 95, 3) := by decide +kernel
theorem dX6_take_27 : decode cX6_take 27 = .ok (.return_, 1) := by decide +kernel
theorem dX6_takeNumber_0 : decode cX6_takeNumber 0 = .ok (.aload_n 0, 1) := by decide +kernel
theorem dX6_takeNumber_1 : decode cX6_takeNumber 1 = .ok (.getfield 109, 3) := by decide +kernel
theorem dX6_takeNumber_4 : decode cX6_takeNumber 4 = .ok (.istore_n 3, 1) := by decide +kernel
theorem dX6_takeNumber_5 : decode cX6_takeNumber 5 = .ok (.aload_n 0, 1) := by decide +kernel
theorem dX6_takeNumber_6 : decode cX6_takeNumber 6 = .ok (.getfield 51, 3) := by decide +kernel
theorem dX6_takeNumber_9 : decode cX6_takeNumber 9 = .ok (.iconst 2, 1) := by decide +kernel
theorem dX6_takeNumber_10 : decode cX6_takeNumber 10 = .ok (.if_icmp .eq 11, 3) := by decide +kernel
theorem dX6_takeNumber_13 : decode cX6_takeNumber 13 = .ok (.aload_n 0, 1) := by decide +kernel
theorem dX6_takeNumber_14 : decode cX6_takeNumber 14 = .ok (.iconst 1, 1) := by decide +kernel
theorem dX6_takeNumber_15 : decode cX6_takeNumber 15 = .ok (.invokevirtual 95, 3) := by decide +kernel
theorem dX6_takeNumber_18 : decode cX6_takeNumber 18 = .ok (.goto 18, 3) := by decide +kernel
theorem dX6_takeNumber_21 : decode cX6_takeNumber 21 = .ok (.iload_n 3, 1) := by decide +kernel
theorem dX6_takeNumber_22 : decode cX6_takeNumber 22 = .ok (.iload_n 1, 1) := by decide +kernel
theorem dX6_takeNumber_23 : decode cX6_takeNumber 23 = .ok (.if_icmp .lt 8, 3) := by decide +kernel
theorem dX6_takeNumber_26 : decode cX6_takeNumber 26 = .ok (.iload_n 3, 1) := by decide +kernel
theorem dX6_takeNumber_27 : decode cX6_takeNumber 27 = .ok (.iload_n 2, 1) := by decide +kernel
theorem dX6_takeNumber_28 : decode cX6_takeNumber 28 = .ok (.if_icmp .le 8, 3) := by decide +kernel
theorem dX6_takeNumber_31 : decode cX6_takeNumber 31 = .ok (.aload_n 0, 1) := by decide +kernel
theorem dX6_takeNumber_32 : decode cX6_takeNumber 32 = .ok (.iconst 2, 1) := by decide +kernel
theorem dX6_takeNumber_33 : decode cX6_takeNumber 33 = .ok (.invokevirtual 95, 3) := by decide +kernel
theorem dX6_takeNumber_36 : decode cX6_takeNumber 36 = .ok (.aload_n 0, 1) := by decide +kernel
theorem dX6_takeNumber_37 : decode cX6_takeNumber 37 = .ok (.getfield 45, 3) := by decide +kernel
theorem dX6_takeNumber_40 : decode cX6_takeNumber 40 = .ok (.ifCond .ne 7, 3) := by decide +kernel
theorem dX6_takeNumber_43 : decode cX6_takeNumber 43 = .ok (.aload_n 0, 1) := by decide +kernel
theorem dX6_takeNumber_44 : decode cX6_takeNumber 44 = .ok (.invokevirtual 48, 3) := by decide +kernel
theorem dX6_takeNumber_47 : decode cX6_takeNumber 47 = .ok (.iload_n 3, 1) := by decide +kernel
theorem dX6_takeNumber_48 : decode cX6_takeNumber 48 = .ok (.ireturn, 1) := by decide +kernel
theorem dX6_takeNamed_0 : decode cX6_takeNamed 0 = .ok (.aload_n 0, 1) := by decide +kernel
theorem dX6_takeNamed_1 : decode cX6_takeNamed 1 = .ok (.aload_n 1, 1) := by decide +kernel
theorem dX6_takeNamed_2 : decode cX6_takeNamed 2 = .ok (.invokevirtual 59, 3) := by decide +kernel
theorem dX6_takeNamed_5 : decode cX6_takeNamed 5 = .ok (.aload_n 0, 1) := by decide +kernel
theorem dX6_takeNamed_6 : decode cX6_takeNamed 6 = .ok (.getfield 45, 3) := by decide +kernel
theorem dX6_takeNamed_9 : decode cX6_takeNamed 9 = .ok (.ifCond .ne 12, 3) := by decide +kernel
theorem dX6_takeNamed_12 : decode cX6_takeNamed 12 = .ok (.aload_n 0, 1) := by decide +kernel
theorem dX6_takeNamed_13 : decode cX6_takeNamed 13 = .ok (.iload_n 2, 1) := by decide +kernel
theorem dX6_takeNamed_14 : decode cX6_takeNamed 14 = .ok (.iload_n 3, 1) := by decide +kernel
theorem dX6_takeNamed_15 : decode cX6_takeNamed 15 = .ok (.invokevirtual 129, 3) := by decide +kernel
theorem dX6_takeNamed_18 : decode cX6_takeNamed 18 = .ok (.goto 4, 3) := by decide +kernel
theorem dX6_takeNamed_21 : decode cX6_takeNamed 21 = .ok (.iconst 0, 1) := by decide +kernel
theorem dX6_takeNamed_22 : decode cX6_takeNamed 22 = .ok (.ireturn, 1) := by decide +kernel
theorem dX6_readLaw_0 : decode cX6_readLaw 0 = .ok (.aload_n 0, 1) := by decide +kernel
theorem dX6_readLaw_1 : decode cX6_readLaw 1 = .ok (.getfield 35, 3) := by decide +kernel
theorem dX6_readLaw_4 : decode cX6_readLaw 4 = .ok (.ifCond .eq 8, 3) := by decide +kernel
theorem dX6_readLaw_7 : decode cX6_readLaw 7 = .ok (.aload_n 0, 1) := by decide +kernel
theorem dX6_readLaw_8 : decode cX6_readLaw 8 = .ok (.iconst 2, 1) := by decide +kernel
theorem dX6_readLaw_9 : decode cX6_readLaw 9 = .ok (.invokevirtual 95, 3) := by decide +kernel
theorem dX6_readLaw_12 : decode cX6_readLaw 12 = .ok (.aload_n 0, 1) := by decide +kernel
theorem dX6_readLaw_13 : decode cX6_readLaw 13 = .ok (.iconst 1, 1) := by decide +kernel
theorem dX6_readLaw_14 : decode cX6_readLaw 14 = .ok (.putfield 35, 3) := by decide +kernel
theorem dX6_readLaw_17 : decode cX6_readLaw 17 = .ok (.aload_n 0, 1) := by decide +kernel
theorem dX6_readLaw_18 : decode cX6_readLaw 18 = .ok (.ldc 71, 2) := by decide +kernel
theorem dX6_readLaw_20 : decode cX6_readLaw 20 = .ok (.invokevirtual 59, 3) := by decide +kernel
theorem dX6_readLaw_23 : decode cX6_readLaw 23 = .ok (.aload_n 0, 1) := by decide +kernel
theorem dX6_readLaw_24 : decode cX6_readLaw 24 = .ok (.getfield 18, 3) := by decide +kernel
theorem dX6_readLaw_27 : decode cX6_readLaw 27 = .ok (.getfield 132, 3) := by decide +kernel
theorem dX6_readLaw_30 : decode cX6_readLaw 30 = .ok (.aload_n 0, 1) := by decide +kernel
theorem dX6_readLaw_31 : decode cX6_readLaw 31 = .ok (.ldc 135, 2) := by decide +kernel
theorem dX6_readLaw_33 : decode cX6_readLaw 33 = .ok (.iconst 0, 1) := by decide +kernel
theorem dX6_readLaw_34 : decode cX6_readLaw 34 = .ok (.bipush 30, 2) := by decide +kernel
theorem dX6_readLaw_36 : decode cX6_readLaw 36 = .ok (.invokevirtual 65, 3) := by decide +kernel
theorem dX6_readLaw_39 : decode cX6_readLaw 39 = .ok (.putfield 137, 3) := by decide +kernel
theorem dX6_readLaw_42 : decode cX6_readLaw 42 = .ok (.aload_n 0, 1) := by decide +kernel
theorem dX6_readLaw_43 : decode cX6_readLaw 43 = .ok (.getfield 18, 3) := by decide +kernel
theorem dX6_readLaw_46 : decode cX6_readLaw 46 = .ok (.getfield 132, 3) := by decide +kernel
theorem dX6_readLaw_49 : decode cX6_readLaw 49 = .ok (.aload_n 0, 1) := by decide +kernel
theorem dX6_readLaw_50 : decode cX6_readLaw 50 = .ok (.ldc 141, 2) := by decide +kernel
theorem dX6_readLaw_52 : decode cX6_readLaw 52 = .ok (.iconst 2, 1) := by decide +kernel
theorem dX6_readLaw_53 : decode cX6_readLaw 53 = .ok (.iconst 4, 1) := by decide +kernel
theorem dX6_readLaw_54 : decode cX6_readLaw 54 = .ok (.invokevirtual 65, 3) := by decide +kernel
theorem dX6_readLaw_57 : decode cX6_readLaw 57 = .ok (.putfield 143, 3) := by decide +kernel
theorem dX6_readLaw_60 : decode cX6_readLaw 60 = .ok (.aload_n 0, 1) := by decide +kernel
theorem dX6_readLaw_61 : decode cX6_readLaw 61 = .ok (.ldc 145, 2) := by decide +kernel
theorem dX6_readLaw_63 : decode cX6_readLaw 63 = .ok (.invokevirtual 59, 3) := by decide +kernel
theorem dX6_readLaw_66 : decode cX6_readLaw 66 = .ok (.aload_n 0, 1) := by decide +kernel
theorem dX6_readLaw_67 : decode cX6_readLaw 67 = .ok (.getfield 18, 3) := by decide +kernel
theorem dX6_readLaw_70 : decode cX6_readLaw 70 = .ok (.getfield 132, 3) := by decide +kernel
theorem dX6_readLaw_73 : decode cX6_readLaw 73 = .ok (.aload_n 0, 1) := by decide +kernel
theorem dX6_readLaw_74 : decode cX6_readLaw 74 = .ok (.invokevirtual 147, 3) := by decide +kernel
theorem dX6_readLaw_77 : decode cX6_readLaw 77 = .ok (.putfield 150, 3) := by decide +kernel
theorem dX6_readLaw_80 : decode cX6_readLaw 80 = .ok (.aload_n 0, 1) := by decide +kernel
theorem dX6_readLaw_81 : decode cX6_readLaw 81 = .ok (.getfield 18, 3) := by decide +kernel
theorem dX6_readLaw_84 : decode cX6_readLaw 84 = .ok (.getfield 132, 3) := by decide +kernel
theorem dX6_readLaw_87 : decode cX6_readLaw 87 = .ok (.aload_n 0, 1) := by decide +kernel
theorem dX6_readLaw_88 : decode cX6_readLaw 88 = .ok (.ldc 152, 2) := by decide +kernel
theorem dX6_readLaw_90 : decode cX6_readLaw 90 = .ok (.invokevirtual 154, 3) := by decide +kernel
theorem dX6_readLaw_93 : decode cX6_readLaw 93 = .ok (.putfield 157, 3) := by decide +kernel
theorem dX6_readLaw_96 : decode cX6_readLaw 96 = .ok (.return_, 1) := by decide +kernel
theorem dX6_readGoes_0 : decode cX6_readGoes 0 = .ok (.aload_n 0, 1) := by decide +kernel
theorem dX6_readGoes_1 : decode cX6_readGoes 1 = .ok (.ldc 159, 2) := by decide +kernel
theorem dX6_readGoes_3 : decode cX6_readGoes 3 = .ok (.invokevirtual 154, 3) := by decide +kernel
theorem dX6_readGoes_6 : decode cX6_readGoes 6 = .ok (.ifCond .eq 5, 3) := by decide +kernel
theorem dX6_readGoes_9 : decode cX6_readGoes 9 = .ok (.iconst 0, 1) := by decide +kernel
theorem dX6_readGoes_10 : decode cX6_readGoes 10 = .ok (.ireturn, 1) := by decide +kernel
theorem dX6_readGoes_11 : decode cX6_readGoes 11 = .ok (.aload_n 0, 1) := by decide +kernel
theorem dX6_readGoes_12 : decode cX6_readGoes 12 = .ok (.ldc 161, 2) := by decide +kernel
theorem dX6_readGoes_14 : decode cX6_readGoes 14 = .ok (.invokevirtual 154, 3) := by decide +kernel
theorem dX6_readGoes_17 : decode cX6_readGoes 17 = .ok (.ifCond .eq 5, 3) := by decide +kernel
theorem dX6_readGoes_20 : decode cX6_readGoes 20 = .ok (.iconst 1, 1) := by decide +kernel
theorem dX6_readGoes_21 : decode cX6_readGoes 21 = .ok (.ireturn, 1) := by decide +kernel
theorem dX6_readGoes_22 : decode cX6_readGoes 22 = .ok (.aload_n 0, 1) := by decide +kernel
theorem dX6_readGoes_23 : decode cX6_readGoes 23 = .ok (.ldc 163, 2) := by decide +kernel
theorem dX6_readGoes_25 : decode cX6_readGoes 25 = .ok (.invokevirtual 59, 3) := by decide +kernel
theorem dX6_readGoes_28 : decode cX6_readGoes 28 = .ok (.iconst 2, 1) := by decide +kernel
theorem dX6_readGoes_29 : decode cX6_readGoes 29 = .ok (.ireturn, 1) := by decide +kernel
theorem dX6_readFound_0 : decode cX6_readFound 0 = .ok (.aload_n 0, 1) := by decide +kernel
theorem dX6_readFound_1 : decode cX6_readFound 1 = .ok (.getfield 39, 3) := by decide +kernel
theorem dX6_readFound_4 : decode cX6_readFound 4 = .ok (.ifCond .eq 8, 3) := by decide +kernel
theorem dX6_readFound_7 : decode cX6_readFound 7 = .ok (.aload_n 0, 1) := by decide +kernel
theorem dX6_readFound_8 : decode cX6_readFound 8 = .ok (.iconst 2, 1) := by decide +kernel
theorem dX6_readFound_9 : decode cX6_readFound 9 = .ok (.invokevirtual 95, 3) := by decide +kernel
theorem dX6_readFound_12 : decode cX6_readFound 12 = .ok (.aload_n 0, 1) := by decide +kernel
theorem dX6_readFound_13 : decode cX6_readFound 13 = .ok (.iconst 1, 1) := by decide +kernel
theorem dX6_readFound_14 : decode cX6_readFound 14 = .ok (.putfield 39, 3) := by decide +kernel
theorem dX6_readFound_17 : decode cX6_readFound 17 = .ok (.aload_n 0, 1) := by decide +kernel
theorem dX6_readFound_18 : decode cX6_readFound 18 = .ok (.getfield 18, 3) := by decide +kernel
theorem dX6_readFound_21 : decode cX6_readFound 21 = .ok (.getfield 132, 3) := by decide +kernel
theorem dX6_readFound_24 : decode cX6_readFound 24 = .ok (.aload_n 0, 1) := by decide +kernel
theorem dX6_readFound_25 : decode cX6_readFound 25 = .ok (.ldc 90, 2) := by decide +kernel
theorem dX6_readFound_27 : decode cX6_readFound 27 = .ok (.iconst 0, 1) := by decide +kernel
theorem dX6_readFound_28 : decode cX6_readFound 28 = .ok (.bipush 100, 2) := by decide +kernel
theorem dX6_readFound_30 : decode cX6_readFound 30 = .ok (.invokevirtual 65, 3) := by decide +kernel
theorem dX6_readFound_33 : decode cX6_readFound 33 = .ok (.putfield 165, 3) := by decide +kernel
theorem dX6_readFound_36 : decode cX6_readFound 36 = .ok (.return_, 1) := by decide +kernel
theorem dX6_readPerson_0 : decode cX6_readPerson 0 = .ok (.aload_n 0, 1) := by decide +kernel
theorem dX6_readPerson_1 : decode cX6_readPerson 1 = .ok (.getfield 18, 3) := by decide +kernel
theorem dX6_readPerson_4 : decode cX6_readPerson 4 = .ok (.getfield 167, 3) := by decide +kernel
theorem dX6_readPerson_7 : decode cX6_readPerson 7 = .ok (.bipush 8, 2) := by decide +kernel
theorem dX6_readPerson_9 : decode cX6_readPerson 9 = .ok (.if_icmp .lt 9, 3) := by decide +kernel
theorem dX6_readPerson_12 : decode cX6_readPerson 12 = .ok (.aload_n 0, 1) := by decide +kernel
theorem dX6_readPerson_13 : decode cX6_readPerson 13 = .ok (.iconst 3, 1) := by decide +kernel
theorem dX6_readPerson_14 : decode cX6_readPerson 14 = .ok (.invokevirtual 95, 3) := by decide +kernel
theorem dX6_readPerson_17 : decode cX6_readPerson 17 = .ok (.return_, 1) := by decide +kernel
theorem dX6_readPerson_18 : decode cX6_readPerson 18 = .ok (.aload_n 0, 1) := by decide +kernel
theorem dX6_readPerson_19 : decode cX6_readPerson 19 = .ok (.getfield 18, 3) := by decide +kernel
theorem dX6_readPerson_22 : decode cX6_readPerson 22 = .ok (.getfield 170, 3) := by decide +kernel
theorem dX6_readPerson_25 : decode cX6_readPerson 25 = .ok (.aload_n 0, 1) := by decide +kernel
theorem dX6_readPerson_26 : decode cX6_readPerson 26 = .ok (.getfield 18, 3) := by decide +kernel
theorem dX6_readPerson_29 : decode cX6_readPerson 29 = .ok (.getfield 167, 3) := by decide +kernel
theorem dX6_readPerson_32 : decode cX6_readPerson 32 = .ok (.aaload, 1) := by decide +kernel
theorem dX6_readPerson_33 : decode cX6_readPerson 33 = .ok (.astore_n 1, 1) := by decide +kernel
