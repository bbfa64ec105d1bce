theorem dX7_clear_61 : decode cX7_clear 61 = .ok (.iconst 1, 1) := by decide +kernel
theorem dX7_clear_62 : decode cX7_clear 62 = .ok (.iastore, 1) := by decide +kernel
theorem dX7_clear_63 : decode cX7_clear 63 = .ok (.iinc 1 1, 3) := by decide +kernel
theorem dX7_clear_66 : decode cX7_clear 66 = .ok (.goto (-19), 3) := by decide +kernel
theorem dX7_clear_69 : decode cX7_clear 69 = .ok (.return_, 1) := by decide +kernel
theorem dX7_copyFrom_0 : decode cX7_copyFrom 0 = .ok (.aload_n 0, 1) := by decide +kernel
theorem dX7_copyFrom_1 : decode cX7_copyFrom 1 = .ok (.aload_n 1, 1) := by decide +kernel
theorem dX7_copyFrom_2 : decode cX7_copyFrom 2 = .ok (.getfield 39, 3) := by decide +kernel
theorem dX7_copyFrom_5 : decode cX7_copyFrom 5 = .ok (.putfield 39, 3) := by decide +kernel
theorem dX7_copyFrom_8 : decode cX7_copyFrom 8 = .ok (.aload_n 0, 1) := by decide +kernel
theorem dX7_copyFrom_9 : decode cX7_copyFrom 9 = .ok (.aload_n 1, 1) := by decide +kernel
theorem dX7_copyFrom_10 : decode cX7_copyFrom 10 = .ok (.getfield 43, 3) := by decide +kernel
theorem dX7_copyFrom_13 : decode cX7_copyFrom 13 = .ok (.putfield 43, 3) := by decide +kernel
theorem dX7_copyFrom_16 : decode cX7_copyFrom 16 = .ok (.aload_n 0, 1) := by decide +kernel
theorem dX7_copyFrom_17 : decode cX7_copyFrom 17 = .ok (.aload_n 1, 1) := by decide +kernel
theorem dX7_copyFrom_18 : decode cX7_copyFrom 18 = .ok (.getfield 46, 3) := by decide +kernel
theorem dX7_copyFrom_21 : decode cX7_copyFrom 21 = .ok (.putfield 46, 3) := by decide +kernel
theorem dX7_copyFrom_24 : decode cX7_copyFrom 24 = .ok (.aload_n 0, 1) := by decide +kernel
theorem dX7_copyFrom_25 : decode cX7_copyFrom 25 = .ok (.aload_n 1, 1) := by decide +kernel
theorem dX7_copyFrom_26 : decode cX7_copyFrom 26 = .ok (.getfield 49, 3) := by decide +kernel
theorem dX7_copyFrom_29 : decode cX7_copyFrom 29 = .ok (.putfield 49, 3) := by decide +kernel
theorem dX7_copyFrom_32 : decode cX7_copyFrom 32 = .ok (.aload_n 0, 1) := by decide +kernel
theorem dX7_copyFrom_33 : decode cX7_copyFrom 33 = .ok (.aload_n 1, 1) := by decide +kernel
theorem dX7_copyFrom_34 : decode cX7_copyFrom 34 = .ok (.getfield 52, 3) := by decide +kernel
theorem dX7_copyFrom_37 : decode cX7_copyFrom 37 = .ok (.putfield 52, 3) := by decide +kernel
theorem dX7_copyFrom_40 : decode cX7_copyFrom 40 = .ok (.aload_n 0, 1) := by decide +kernel
theorem dX7_copyFrom_41 : decode cX7_copyFrom 41 = .ok (.aload_n 1, 1) := by decide +kernel
theorem dX7_copyFrom_42 : decode cX7_copyFrom 42 = .ok (.getfield 55, 3) := by decide +kernel
theorem dX7_copyFrom_45 : decode cX7_copyFrom 45 = .ok (.putfield 55, 3) := by decide +kernel
theorem dX7_copyFrom_48 : decode cX7_copyFrom 48 = .ok (.aload_n 0, 1) := by decide +kernel
theorem dX7_copyFrom_49 : decode cX7_copyFrom 49 = .ok (.getfield 12, 3) := by decide +kernel
theorem dX7_copyFrom_52 : decode cX7_copyFrom 52 = .ok (.aload_n 1, 1) := by decide +kernel
theorem dX7_copyFrom_53 : decode cX7_copyFrom 53 = .ok (.getfield 12, 3) := by decide +kernel
theorem dX7_copyFrom_56 : decode cX7_copyFrom 56 = .ok (.invokevirtual 63, 3) := by decide +kernel
theorem dX7_copyFrom_59 : decode cX7_copyFrom 59 = .ok (.aload_n 0, 1) := by decide +kernel
theorem dX7_copyFrom_60 : decode cX7_copyFrom 60 = .ok (.getfield 21, 3) := by decide +kernel
theorem dX7_copyFrom_63 : decode cX7_copyFrom 63 = .ok (.aload_n 1, 1) := by decide +kernel
theorem dX7_copyFrom_64 : decode cX7_copyFrom 64 = .ok (.getfield 21, 3) := by decide +kernel
theorem dX7_copyFrom_67 : decode cX7_copyFrom 67 = .ok (.invokevirtual 67, 3) := by decide +kernel
theorem dX7_copyFrom_70 : decode cX7_copyFrom 70 = .ok (.iconst 0, 1) := by decide +kernel
theorem dX7_copyFrom_71 : decode cX7_copyFrom 71 = .ok (.istore_n 2, 1) := by decide +kernel
theorem dX7_copyFrom_72 : decode cX7_copyFrom 72 = .ok (.iload_n 2, 1) := by decide +kernel
theorem dX7_copyFrom_73 : decode cX7_copyFrom 73 = .ok (.bipush 8, 2) := by decide +kernel
theorem dX7_copyFrom_75 : decode cX7_copyFrom 75 = .ok (.if_icmp .ge 24, 3) := by decide +kernel
theorem dX7_copyFrom_78 : decode cX7_copyFrom 78 = .ok (.aload_n 0, 1) := by decide +kernel
theorem dX7_copyFrom_79 : decode cX7_copyFrom 79 = .ok (.getfield 27, 3) := by decide +kernel
theorem dX7_copyFrom_82 : decode cX7_copyFrom 82 = .ok (.iload_n 2, 1) := by decide +kernel
theorem dX7_copyFrom_83 : decode cX7_copyFrom 83 = .ok (.aaload, 1) := by decide +kernel
theorem dX7_copyFrom_84 : decode cX7_copyFrom 84 = .ok (.aload_n 1, 1) := by decide +kernel
theorem dX7_copyFrom_85 : decode cX7_copyFrom 85 = .ok (.getfield 27, 3) := by decide +kernel
theorem dX7_copyFrom_88 : decode cX7_copyFrom 88 = .ok (.iload_n 2, 1) := by decide +kernel
theorem dX7_copyFrom_89 : decode cX7_copyFrom 89 = .ok (.aaload, 1) := by decide +kernel
theorem dX7_copyFrom_90 : decode cX7_copyFrom 90 = .ok (.invokevirtual 70, 3) := by decide +kernel
theorem dX7_copyFrom_93 : decode cX7_copyFrom 93 = .ok (.iinc 2 1, 3) := by decide +kernel
theorem dX7_copyFrom_96 : decode cX7_copyFrom 96 = .ok (.goto (-24), 3) := by decide +kernel
theorem dX7_copyFrom_99 : decode cX7_copyFrom 99 = .ok (.aload_n 1, 1) := by decide +kernel
theorem dX7_copyFrom_100 : decode cX7_copyFrom 100 = .ok (.getfield 31, 3) := by decide +kernel
theorem dX7_copyFrom_103 : decode cX7_copyFrom 103 = .ok (.iconst 0, 1) := by decide +kernel
theorem dX7_copyFrom_104 : decode cX7_copyFrom 104 = .ok (.aload_n 0, 1) := by decide +kernel
theorem dX7_copyFrom_105 : decode cX7_copyFrom 105 = .ok (.getfield 31, 3) := by decide +kernel
theorem dX7_copyFrom_108 : decode cX7_copyFrom 108 = .ok (.iconst 0, 1) := by decide +kernel
theorem dX7_copyFrom_109 : decode cX7_copyFrom 109 = .ok (.aload_n 0, 1) := by decide +kernel
theorem dX7_copyFrom_110 : decode cX7_copyFrom 110 = .ok (.getfield 31, 3) := by decide +kernel
theorem dX7_copyFrom_113 : decode cX7_copyFrom 113 = .ok (.arraylength, 1) := by decide +kernel
theorem dX7_copyFrom_114 : decode cX7_copyFrom 114 = .ok (.invokestatic 73, 3) := by decide +kernel
theorem dX7_copyFrom_117 : decode cX7_copyFrom 117 = .ok (.return_, 1) := by decide +kernel
theorem dX7_spreadOut_0 : decode cX7_spreadOut 0 = .ok (.iconst 0, 1) := by decide +kernel
theorem dX7_spreadOut_1 : decode cX7_spreadOut 1 = .ok (.istore_n 1, 1) := by decide +kernel
theorem dX7_spreadOut_2 : decode cX7_spreadOut 2 = .ok (.iconst 0, 1) := by decide +kernel
theorem dX7_spreadOut_3 : decode cX7_spreadOut 3 = .ok (.istore_n 2, 1) := by decide +kernel
theorem dX7_spreadOut_4 : decode cX7_spreadOut 4 = .ok (.iload_n 2, 1) := by decide +kernel
theorem dX7_spreadOut_5 : decode cX7_spreadOut 5 = .ok (.aload_n 0, 1) := by decide +kernel
theorem dX7_spreadOut_6 : decode cX7_spreadOut 6 = .ok (.getfield 43, 3) := by decide +kernel
theorem dX7_spreadOut_9 : decode cX7_spreadOut 9 = .ok (.if_icmp .ge 47, 3) := by decide +kernel
theorem dX7_spreadOut_12 : decode cX7_spreadOut 12 = .ok (.iconst 0, 1) := by decide +kernel
theorem dX7_spreadOut_13 : decode cX7_spreadOut 13 = .ok (.istore_n 3, 1) := by decide +kernel
theorem dX7_spreadOut_14 : decode cX7_spreadOut 14 = .ok (.iload_n 3, 1) := by decide +kernel
theorem dX7_spreadOut_15 : decode cX7_spreadOut 15 = .ok (.iload_n 2, 1) := by decide +kernel
theorem dX7_spreadOut_16 : decode cX7_spreadOut 16 = .ok (.if_icmp .ge 34, 3) := by decide +kernel
theorem dX7_spreadOut_19 : decode cX7_spreadOut 19 = .ok (.iload_n 1, 1) := by decide +kernel
theorem dX7_spreadOut_20 : decode cX7_spreadOut 20 = .ok (.aload_n 0, 1) := by decide +kernel
theorem dX7_spreadOut_21 : decode cX7_spreadOut 21 = .ok (.getfield 27, 3) := by decide +kernel
theorem dX7_spreadOut_24 : decode cX7_spreadOut 24 = .ok (.iload_n 2, 1) := by decide +kernel
theorem dX7_spreadOut_25 : decode cX7_spreadOut 25 = .ok (.aaload, 1) := by decide +kernel
theorem dX7_spreadOut_26 : decode cX7_spreadOut 26 = .ok (.getfield 88, 3) := by decide +kernel
theorem dX7_spreadOut_29 : decode cX7_spreadOut 29 = .ok (.aload_n 0, 1) := by decide +kernel
theorem dX7_spreadOut_30 : decode cX7_spreadOut 30 = .ok (.getfield 27, 3) := by decide +kernel
theorem dX7_spreadOut_33 : decode cX7_spreadOut 33 = .ok (.iload_n 3, 1) := by decide +kernel
theorem dX7_spreadOut_34 : decode cX7_spreadOut 34 = .ok (.aaload, 1) := by decide +kernel
theorem dX7_spreadOut_35 : decode cX7_spreadOut 35 = .ok (.getfield 88, 3) := by decide +kernel
theorem dX7_spreadOut_38 : decode cX7_spreadOut 38 = .ok (.isub, 1) := by decide +kernel
theorem dX7_spreadOut_39 : decode cX7_spreadOut 39 = .ok (.invokestatic 124, 3) := by decide +kernel
theorem dX7_spreadOut_42 : decode cX7_spreadOut 42 = .ok (.iadd, 1) := by decide +kernel
theorem dX7_spreadOut_43 : decode cX7_spreadOut 43 = .ok (.istore_n 1, 1) := by decide +kernel
theorem dX7_spreadOut_44 : decode cX7_spreadOut 44 = .ok (.iinc 3 1, 3) := by decide +kernel
theorem dX7_spreadOut_47 : decode cX7_spreadOut 47 = .ok (.goto (-33), 3) := by decide +kernel
theorem dX7_spreadOut_50 : decode cX7_spreadOut 50 = .ok (.iinc 2 1, 3) := by decide +kernel
theorem dX7_spreadOut_53 : decode cX7_spreadOut 53 = .ok (.goto (-49), 3) := by decide +kernel
theorem dX7_spreadOut_56 : decode cX7_spreadOut 56 = .ok (.iload_n 1, 1) := by decide +kernel
theorem dX7_spreadOut_57 : decode cX7_spreadOut 57 = .ok (.ireturn, 1) := by decide +kernel
theorem dX8_init_0 : decode cX8_init 0 = .ok (.aload_n 0, 1) := by decide +kernel
theorem dX8_init_1 : decode cX8_init 1 = .ok (.invokespecial 3, 3) := by decide +kernel
theorem dX8_init_4 : decode cX8_init 4 = .ok (.aload_n 0, 1) := by decide +kernel
theorem dX8_init_5 : decode cX8_init 5 = .ok (.new 9, 3) := by decide +kernel
theorem dX8_init_8 : decode cX8_init 8 = .ok (.dup, 1) := by decide +kernel
theorem dX8_init_9 : decode cX8_init 9 = .ok (.invokespecial 11, 3) := by decide +kernel
theorem dX8_init_12 : decode cX8_init 12 = .ok (.putfield 12, 3) := by decide +kernel
theorem dX8_init_15 : decode cX8_init 15 = .ok (.aload_n 0, 1) := by decide +kernel
theorem dX8_init_16 : decode cX8_init 16 = .ok (.new 18, 3) := by decide +kernel
theorem dX8_init_19 : decode cX8_init 19 = .ok (.dup, 1) := by decide +kernel
theorem dX8_init_20 : decode cX8_init 20 = .ok (.invokespecial 20, 3) := by decide +kernel
theorem dX8_init_23 : decode cX8_init 23 = .ok (.putfield 21, 3) := by decide +kernel
theorem dX8_init_26 : decode cX8_init 26 = .ok (.aload_n 0, 1) := by decide +kernel
theorem dX8_init_27 : decode cX8_init 27 = .ok (.bipush 8, 2) := by decide +kernel
theorem dX8_init_29 : decode cX8_init 29 = .ok (.newarray .int, 2) := by decide +kernel
theorem dX8_init_31 : decode cX8_init 31 = .ok (.putfield 25, 3) := by decide +kernel
theorem dX8_init_34 : decode cX8_init 34 = .ok (.return_, 1) := by decide +kernel
theorem dX9_init_0 : decode cX9_init 0 = .ok (.aload_n 0, 1) := by decide +kernel
theorem dX9_init_1 : decode cX9_init 1 = .ok (.invokespecial 1, 3) := by decide +kernel
theorem dX9_init_4 : decode cX9_init 4 = .ok (.aload_n 0, 1) := by decide +kernel
theorem dX9_init_5 : decode cX9_init 5 = .ok (.new 7, 3) := by decide +kernel
theorem dX9_init_8 : decode cX9_init 8 = .ok (.dup, 1) := by decide +kernel
theorem dX9_init_9 : decode cX9_init 9 = .ok (.invokespecial 9, 3) := by decide +kernel
theorem dX9_init_12 : decode cX9_init 12 = .ok (.putfield 10, 3) := by decide +kernel
theorem dX9_init_15 : decode cX9_init 15 = .ok (.aload_n 0, 1) := by decide +kernel
theorem dX9_init_16 : decode cX9_init 16 = .ok (.new 16, 3) := by decide +kernel
theorem dX9_init_19 : decode cX9_init 19 = .ok (.dup, 1) := by decide +kernel
theorem dX9_init_20 : decode cX9_init 20 = .ok (.invokespecial 18, 3) := by decide +kernel
theorem dX9_init_23 : decode cX9_init 23 = .ok (.putfield 19, 3) := by decide +kernel
theorem dX9_init_26 : decode cX9_init 26 = .ok (.aload_n 0, 1) := by decide +kernel
theorem dX9_init_27 : decode cX9_init 27 = .ok (.iconst 3, 1) := by decide +kernel
theorem dX9_init_28 : decode cX9_init 28 = .ok (.anewarray 16, 3) := by decide +kernel
theorem dX9_init_31 : decode cX9_init 31 = .ok (.putfield 23, 3) := by decide +kernel
theorem dX9_init_34 : decode cX9_init 34 = .ok (.aload_n 0, 1) := by decide +kernel
theorem dX9_init_35 : decode cX9_init 35 = .ok (.iconst 3, 1) := by decide +kernel
theorem dX9_init_36 : decode cX9_init 36 = .ok (.anewarray 16, 3) := by decide +kernel
theorem dX9_init_39 : decode cX9_init 39 = .ok (.putfield 27, 3) := by decide +kernel
theorem dX9_init_42 : decode cX9_init 42 = .ok (.aload_n 0, 1) := by decide +kernel
theorem dX9_init_43 : decode cX9_init 43 = .ok (.iconst 3, 1) := by decide +kernel
theorem dX9_init_44 : decode cX9_init 44 = .ok (.newarray .boolean, 2) := by decide +kernel
theorem dX9_init_46 : decode cX9_init 46 = .ok (.putfield 30, 3) := by decide +kernel
theorem dX9_init_49 : decode cX9_init 49 = .ok (.aload_n 0, 1) := by decide +kernel
theorem dX9_init_50 : decode cX9_init 50 = .ok (.iconst 4, 1) := by decide +kernel
theorem dX9_init_51 : decode cX9_init 51 = .ok (.anewarray 34, 3) := by decide +kernel
theorem dX9_init_54 : decode cX9_init 54 = .ok (.putfield 36, 3) := by decide +kernel
theorem dX9_init_57 : decode cX9_init 57 = .ok (.aload_n 0, 1) := by decide +kernel
theorem dX9_init_58 : decode cX9_init 58 = .ok (.new 40, 3) := by decide +kernel
theorem dX9_init_61 : decode cX9_init 61 = .ok (.dup, 1) := by decide +kernel
theorem dX9_init_62 : decode cX9_init 62 = .ok (.invokespecial 42, 3) := by decide +kernel
theorem dX9_init_65 : decode cX9_init 65 = .ok (.putfield 43, 3) := by decide +kernel
theorem dX9_init_68 : decode cX9_init 68 = .ok (.aload_n 0, 1) := by decide +kernel
theorem dX9_init_69 : decode cX9_init 69 = .ok (.new 47, 3) := by decide +kernel
theorem dX9_init_72 : decode cX9_init 72 = .ok (.dup, 1) := by decide +kernel
theorem dX9_init_73 : decode cX9_init 73 = .ok (.invokespecial 49, 3) := by decide +kernel
theorem dX9_init_76 : decode cX9_init 76 = .ok (.putfield 50, 3) := by decide +kernel
theorem dX9_init_79 : decode cX9_init 79 = .ok (.aload_n 0, 1) := by decide +kernel
theorem dX9_init_80 : decode cX9_init 80 = .ok (.new 54, 3) := by decide +kernel
theorem dX9_init_83 : decode cX9_init 83 = .ok (.dup, 1) := by decide +kernel
theorem dX9_init_84 : decode cX9_init 84 = .ok (.invokespecial 56, 3) := by decide +kernel
theorem dX9_init_87 : decode cX9_init 87 = .ok (.putfield 57, 3) := by decide +kernel
theorem dX9_init_90 : decode cX9_init 90 = .ok (.aload_n 0, 1) := by decide +kernel
theorem dX9_init_91 : decode cX9_init 91 = .ok (.bipush 8, 2) := by decide +kernel
theorem dX9_init_93 : decode cX9_init 93 = .ok (.newarray .int, 2) := by decide +kernel
theorem dX9_init_95 : decode cX9_init 95 = .ok (.putfield 61, 3) := by decide +kernel
theorem dX9_init_98 : decode cX9_init 98 = .ok (.aload_n 0, 1) := by decide +kernel
theorem dX9_init_99 : decode cX9_init 99 = .ok (.iconst 4, 1) := by decide +kernel
theorem dX9_init_100 : decode cX9_init 100 = .ok (.newarray .int, 2) := by decide +kernel
theorem dX9_init_102 : decode cX9_init 102 = .ok (.putfield 65, 3) := by decide +kernel
theorem dX9_init_105 : decode cX9_init 105 = .ok (.iconst 0, 1) := by decide +kernel
theorem dX9_init_106 : decode cX9_init 106 = .ok (.istore_n 1, 1) := by decide +kernel
theorem dX9_init_107 : decode cX9_init 107 = .ok (.iload_n 1, 1) := by decide +kernel
theorem dX9_init_108 : decode cX9_init 108 = .ok (.iconst 3, 1) := by decide +kernel
theorem dX9_init_109 : decode cX9_init 109 = .ok (.if_icmp .ge 22, 3) := by decide +kernel
theorem dX9_init_112 : decode cX9_init 112 = .ok (.aload_n 0, 1) := by decide +kernel
theorem dX9_init_113 : decode cX9_init 113 = .ok (.getfield 23, 3) := by decide +kernel
theorem dX9_init_116 : decode cX9_init 116 = .ok (.iload_n 1, 1) := by decide +kernel
theorem dX9_init_117 : decode cX9_init 117 = .ok (.new 16, 3) := by decide +kernel
theorem dX9_init_120 : decode cX9_init 120 = .ok (.dup, 1) := by decide +kernel
theorem dX9_init_121 : decode cX9_init 121 = .ok (.invokespecial 18, 3) := by decide +kernel
theorem dX9_init_124 : decode cX9_init 124 = .ok (.aastore, 1) := by decide +kernel
theorem dX9_init_125 : decode cX9_init 125 = .ok (.iinc 1 1, 3) := by decide +kernel
theorem dX9_init_128 : decode cX9_init 128 = .ok (.goto (-21), 3) := by decide +kernel
theorem dX9_init_131 : decode cX9_init 131 = .ok (.iconst 0, 1) := by decide +kernel
theorem dX9_init_132 : decode cX9_init 132 = .ok (.istore_n 1, 1) := by decide +kernel
theorem dX9_init_133 : decode cX9_init 133 = .ok (.iload_n 1, 1) := by decide +kernel
theorem dX9_init_134 : decode cX9_init 134 = .ok (.iconst 3, 1) := by decide +kernel
theorem dX9_init_135 : decode cX9_init 135 = .ok (.if_icmp .ge 22, 3) := by decide +kernel
theorem dX9_init_138 : decode cX9_init 138 = .ok (.aload_n 0, 1) := by decide +kernel
theorem dX9_init_139 : decode cX9_init 139 = .ok (.getfield 27, 3) := by decide +kernel
theorem dX9_init_142 : decode cX9_init 142 = .ok (.iload_n 1, 1) := by decide +kernel
theorem dX9_init_143 : decode cX9_init 143 = .ok (.new 16, 3) := by decide +kernel
theorem dX9_init_146 : decode cX9_init 146 = .ok (.dup, 1) := by decide +kernel
theorem dX9_init_147 : decode cX9_init 147 = .ok (.invokespecial 18, 3) := by decide +kernel
theorem dX9_init_150 : decode cX9_init 150 = .ok (.aastore, 1) := by decide +kernel
theorem dX9_init_151 : decode cX9_init 151 = .ok (.iinc 1 1, 3) := by decide +kernel
theorem dX9_init_154 : decode cX9_init 154 = .ok (.goto (-21), 3) := by decide +kernel
theorem dX9_init_157 : decode cX9_init 157 = .ok (.iconst 0, 1) := by decide +kernel
theorem dX9_init_158 : decode cX9_init 158 = .ok (.istore_n 1, 1) := by decide +kernel
theorem dX9_init_159 : decode cX9_init 159 = .ok (.iload_n 1, 1) := by decide +kernel
theorem dX9_init_160 : decode cX9_init 160 = .ok (.iconst 4, 1) := by decide +kernel
theorem dX9_init_161 : decode cX9_init 161 = .ok (.if_icmp .ge 22, 3) := by decide +kernel
theorem dX9_init_164 : decode cX9_init 164 = .ok (.aload_n 0, 1) := by decide +kernel
theorem dX9_init_165 : decode cX9_init 165 = .ok (.getfield 36, 3) := by decide +kernel
theorem dX9_init_168 : decode cX9_init 168 = .ok (.iload_n 1, 1) := by decide +kernel
theorem dX9_init_169 : decode cX9_init 169 = .ok (.new 34, 3) := by decide +kernel
theorem dX9_init_172 : decode cX9_init 172 = .ok (.dup, 1) := by decide +kernel
theorem dX9_init_173 : decode cX9_init 173 = .ok (.invokespecial 68, 3) := by decide +kernel
theorem dX9_init_176 : decode cX9_init 176 = .ok (.aastore, 1) := by decide +kernel
theorem dX9_init_177 : decode cX9_init 177 = .ok (.iinc 1 1, 3) := by decide +kernel
theorem dX9_init_180 : decode cX9_init 180 = .ok (.goto (-21), 3) := by decide +kernel
theorem dX9_init_183 : decode cX9_init 183 = .ok (.return_, 1) := by decide +kernel
theorem dX9_feed_0 : decode cX9_feed 0 = .ok (.aload_n 0, 1) := by decide +kernel
theorem dX9_feed_1 : decode cX9_feed 1 = .ok (.getfield 10, 3) := by decide +kernel
theorem dX9_feed_4 : decode cX9_feed 4 = .ok (.getfield 69, 3) := by decide +kernel
theorem dX9_feed_7 : decode cX9_feed 7 = .ok (.bipush 20, 2) := by decide +kernel
theorem dX9_feed_9 : decode cX9_feed 9 = .ok (.iadd, 1) := by decide +kernel
theorem dX9_feed_10 : decode cX9_feed 10 = .ok (.sipush 1600, 3) := by decide +kernel
theorem dX9_feed_13 : decode cX9_feed 13 = .ok (.if_icmp .le 5, 3) := by decide +kernel
theorem dX9_feed_16 : decode cX9_feed 16 = .ok (.iconst (-1), 1) := by decide +kernel
theorem dX9_feed_17 : decode cX9_feed 17 = .ok (.ireturn, 1) := by decide +kernel
theorem dX9_feed_18 : decode cX9_feed 18 = .ok (.aload_n 0, 1) := by decide +kernel
theorem dX9_feed_19 : decode cX9_feed 19 = .ok (.getfield 10, 3) := by decide +kernel
theorem dX9_feed_22 : decode cX9_feed 22 = .ok (.iload_n 1, 1) := by decide +kernel
theorem dX9_feed_23 : decode cX9_feed 23 = .ok (.invokevirtual 73, 3) := by decide +kernel
theorem dX9_feed_26 : decode cX9_feed 26 = .ok (.aload_n 0, 1) := by decide +kernel
theorem dX9_feed_27 : decode cX9_feed 27 = .ok (.getfield 10, 3) := by decide +kernel
theorem dX9_feed_30 : decode cX9_feed 30 = .ok (.iload_n 2, 1) := by decide +kernel
theorem dX9_feed_31 : decode cX9_feed 31 = .ok (.invokevirtual 73, 3) := by decide +kernel
theorem dX9_feed_34 : decode cX9_feed 34 = .ok (.aload_n 0, 1) := by decide +kernel
theorem dX9_feed_35 : decode cX9_feed 35 = .ok (.getfield 10, 3) := by decide +kernel
theorem dX9_feed_38 : decode cX9_feed 38 = .ok (.iload_n 3, 1) := by decide +kernel
theorem dX9_feed_39 : decode cX9_feed 39 = .ok (.invokevirtual 73, 3) := by decide +kernel
theorem dX9_feed_42 : decode cX9_feed 42 = .ok (.aload_n 0, 1) := by decide +kernel
theorem dX9_feed_43 : decode cX9_feed 43 = .ok (.getfield 10, 3) := by decide +kernel
theorem dX9_feed_46 : decode cX9_feed 46 = .ok (.iload 4, 2) := by decide +kernel
theorem dX9_feed_48 : decode cX9_feed 48 = .ok (.invokevirtual 73, 3) := by decide +kernel
theorem dX9_feed_51 : decode cX9_feed 51 = .ok (.aload_n 0, 1) := by decide +kernel
theorem dX9_feed_52 : decode cX9_feed 52 = .ok (.getfield 10, 3) := by decide +kernel
theorem dX9_feed_55 : decode cX9_feed 55 = .ok (.iload 5, 2) := by decide +kernel
theorem dX9_feed_57 : decode cX9_feed 57 = .ok (.invokevirtual 73, 3) := by decide +kernel
theorem dX9_feed_60 : decode cX9_feed 60 = .ok (.aload_n 0, 1) := by decide +kernel
theorem dX9_feed_61 : decode cX9_feed 61 = .ok (.getfield 10, 3) := by decide +kernel
theorem dX9_feed_64 : decode cX9_feed 64 = .ok (.getfield 69, 3) := by decide +kernel
theorem dX9_feed_67 : decode cX9_feed 67 = .ok (.ireturn, 1) := by decide +kernel
theorem dX9_end_0 : decode cX9_end 0 = .ok (.iload_n 1, 1) := by decide +kernel
theorem dX9_end_1 : decode cX9_end 1 = .ok (.ifCond .lt 14, 3) := by decide +kernel
theorem dX9_end_4 : decode cX9_end 4 = .ok (.iload_n 1, 1) := by decide +kernel
theorem dX9_end_5 : decode cX9_end 5 = .ok (.aload_n 0, 1) := by decide +kernel
theorem dX9_end_6 : decode cX9_end 6 = .ok (.getfield 10, 3) := by decide +kernel
theorem dX9_end_9 : decode cX9_end 9 = .ok (.getfield 69, 3) := by decide +kernel
theorem dX9_end_12 : decode cX9_end 12 = .ok (.if_icmp .le 5, 3) := by decide +kernel
theorem dX9_end_15 : decode cX9_end 15 = .ok (.iconst (-1), 1) := by decide +kernel
theorem dX9_end_16 : decode cX9_end 16 = .ok (.ireturn, 1) := by decide +kernel
theorem dX9_end_17 : decode cX9_end 17 = .ok (.aload_n 0, 1) := by decide +kernel
theorem dX9_end_18 : decode cX9_end 18 = .ok (.getfield 10, 3) := by decide +kernel
theorem dX9_end_21 : decode cX9_end 21 = .ok (.iload_n 1, 1) := by decide +kernel
theorem dX9_end_22 : decode cX9_end 22 = .ok (.putfield 69, 3) := by decide +kernel
theorem dX9_end_25 : decode cX9_end 25 = .ok (.iload_n 1, 1) := by decide +kernel
theorem dX9_end_26 : decode cX9_end 26 = .ok (.ireturn, 1) := by decide +kernel
theorem dX9_town_0 : decode cX9_town 0 = .ok (.aload_n 0, 1) := by decide +kernel
theorem dX9_town_1 : decode cX9_town 1 = .ok (.getfield 10, 3) := by decide +kernel
theorem dX9_town_4 : decode cX9_town 4 = .ok (.invokevirtual 77, 3) := by decide +kernel
theorem dX9_town_7 : decode cX9_town 7 = .ok (.ifCond .ne 6, 3) := by decide +kernel
theorem dX9_town_10 : decode cX9_town 10 = .ok (.bipush (-4), 2) := by decide +kernel
theorem dX9_town_12 : decode cX9_town 12 = .ok (.ireturn, 1) := by decide +kernel
theorem dX9_town_13 : decode cX9_town 13 = .ok (.aload_n 0, 1) := by decide +kernel
theorem dX9_town_14 : decode cX9_town 14 = .ok (.getfield 19, 3) := by decide +kernel
theorem dX9_town_17 : decode cX9_town 17 = .ok (.aload_n 0, 1) := by decide +kernel
theorem dX9_town_18 : decode cX9_town 18 = .ok (.getfield 10, 3) := by decide +kernel
theorem dX9_town_21 : decode cX9_town 21 = .ok (.getfield 81, 3) := by decide +kernel
theorem dX9_town_24 : decode cX9_town 24 = .ok (.invokevirtual 84, 3) := by decide +kernel
theorem dX9_town_27 : decode cX9_town 27 = .ok (.aload_n 0, 1) := by decide +kernel
theorem dX9_town_28 : decode cX9_town 28 = .ok (.getfield 10, 3) := by decide +kernel
theorem dX9_town_31 : decode cX9_town 31 = .ok (.iconst 0, 1) := by decide +kernel
theorem dX9_town_32 : decode cX9_town 32 = .ok (.putfield 69, 3) := by decide +kernel
theorem dX9_town_35 : decode cX9_town 35 = .ok (.aload_n 0, 1) := by decide +kernel
theorem dX9_town_36 : decode cX9_town 36 = .ok (.getfield 19, 3) := by decide +kernel
theorem dX9_town_39 : decode cX9_town 39 = .ok (.getfield 88, 3) := by decide +kernel
theorem dX9_town_42 : decode cX9_town 42 = .ok (.ireturn, 1) := by decide +kernel
theorem dX9_fault_0 : decode cX9_fault 0 = .ok (.iload_n 1, 1) := by decide +kernel
theorem dX9_fault_1 : decode cX9_fault 1 = .ok (.ifCond .ne 11, 3) := by decide +kernel
theorem dX9_fault_4 : decode cX9_fault 4 = .ok (.aload_n 0, 1) := by decide +kernel
theorem dX9_fault_5 : decode cX9_fault 5 = .ok (.getfield 10, 3) := by decide +kernel
theorem dX9_fault_8 : decode cX9_fault 8 = .ok (.getfield 91, 3) := by decide +kernel
theorem dX9_fault_11 : decode cX9_fault 11 = .ok (.ireturn, 1) := by decide +kernel
theorem dX9_fault_12 : decode cX9_fault 12 = .ok (.iload_n 1, 1) := by decide +kernel
theorem dX9_fault_13 : decode cX9_fault 13 = .ok (.iconst 1, 1) := by decide +kernel
theorem dX9_fault_14 : decode cX9_fault 14 = .ok (.if_icmp .ne 13, 3) := by decide +kernel
theorem dX9_fault_17 : decode cX9_fault 17 = .ok (.aload_n 0, 1) := by decide +kernel
theorem dX9_fault_18 : decode cX9_fault 18 = .ok (.getfield 10, 3) := by decide +kernel
theorem dX9_fault_21 : decode cX9_fault 21 = .ok (.getfield 94, 3) := by decide +kernel
theorem dX9_fault_24 : decode cX9_fault 24 = .ok (.goto 4, 3) := by decide +kernel
theorem dX9_fault_27 : decode cX9_fault 27 = .ok (.iconst (-1), 1) := by decide +kernel
theorem dX9_fault_28 : decode cX9_fault 28 = .ok (.ireturn, 1) := by decide +kernel
theorem dX9_isPerson_0 : decode cX9_isPerson 0 = .ok (.lload_n 1, 1) := by decide +kernel
theorem dX9_isPerson_1 : decode cX9_isPerson 1 = .ok (.lconst 0, 1) := by decide +kernel
theorem dX9_isPerson_2 : decode cX9_isPerson 2 = .ok (.lcmp, 1) := by decide +kernel
theorem dX9_isPerson_3 : decode cX9_isPerson 3 = .ok (.ifCond .lt 20, 3) := by decide +kernel
theorem dX9_isPerson_6 : decode cX9_isPerson 6 = .ok (.lload_n 1, 1) := by decide +kernel
theorem dX9_isPerson_7 : decode cX9_isPerson 7 = .ok (.aload_n 0, 1) := by decide +kernel
theorem dX9_isPerson_8 : decode cX9_isPerson 8 = .ok (.getfield 19, 3) := by decide +kernel
theorem dX9_isPerson_11 : decode cX9_isPerson 11 = .ok (.getfield 97, 3) := by decide +kernel
theorem dX9_isPerson_14 : decode cX9_isPerson 14 = .ok (.i2l, 1) := by decide +kernel
theorem dX9_isPerson_15 : decode cX9_isPerson 15 = .ok (.lcmp, 1) := by decide +kernel
theorem dX9_isPerson_16 : decode cX9_isPerson 16 = .ok (.ifCond .ge 7, 3) := by decide +kernel
theorem dX9_isPerson_19 : decode cX9_isPerson 19 = .ok (.iconst 1, 1) := by decide +kernel
theorem dX9_isPerson_20 : decode cX9_isPerson 20 = .ok (.goto 4, 3) := by decide +kernel
theorem dX9_isPerson_23 : decode cX9_isPerson 23 = .ok (.iconst 0, 1) := by decide +kernel
theorem dX9_isPerson_24 : decode cX9_isPerson 24 = .ok (.ireturn, 1) := by decide +kernel
theorem dX9_arePair_0 : decode cX9_arePair 0 = .ok (.aload_n 0, 1) := by decide +kernel
theorem dX9_arePair_1 : decode cX9_arePair 1 = .ok (.iload_n 1, 1) := by decide +kernel
theorem dX9_arePair_2 : decode cX9_arePair 2 = .ok (.i2l, 1) := by decide +kernel
theorem dX9_arePair_3 : decode cX9_arePair 3 = .ok (.invokevirtual 100, 3) := by decide +kernel
theorem dX9_arePair_6 : decode cX9_arePair 6 = .ok (.ifCond .eq 21, 3) := by decide +kernel
theorem dX9_arePair_9 : decode cX9_arePair 9 = .ok (.aload_n 0, 1) := by decide +kernel
theorem dX9_arePair_10 : decode cX9_arePair 10 = .ok (.iload_n 2, 1) := by decide +kernel
theorem dX9_arePair_11 : decode cX9_arePair 11 = .ok (.i2l, 1) := by decide +kernel
theorem dX9_arePair_12 : decode cX9_arePair 12 = .ok (.invokevirtual 100, 3) := by decide +kernel
theorem dX9_arePair_15 : decode cX9_arePair 15 = .ok (.ifCond .eq 12, 3) := by decide +kernel
theorem dX9_arePair_18 : decode cX9_arePair 18 = .ok (.iload_n 1, 1) := by decide +kernel
theorem dX9_arePair_19 : decode cX9_arePair 19 = .ok (.iload_n 2, 1) := by decide +kernel
theorem dX9_arePair_20 : decode cX9_arePair 20 = .ok (.if_icmp .eq 7, 3) := by decide +kernel
theorem dX9_arePair_23 : decode cX9_arePair 23 = .ok (.iconst 1, 1) := by decide +kernel
theorem dX9_arePair_24 : decode cX9_arePair 24 = .ok (.goto 4, 3) := by decide +kernel
theorem dX9_arePair_27 : decode cX9_arePair 27 = .ok (.iconst 0, 1) := by decide +kernel
theorem dX9_arePair_28 : decode cX9_arePair 28 = .ok (.ireturn, 1) := by decide +kernel
theorem dX9_areDays_0 : decode cX9_areDays 0 = .ok (.iload_n 0, 1) := by decide +kernel
theorem dX9_areDays_1 : decode cX9_areDays 1 = .ok (.iconst 1, 1) := by decide +kernel
theorem dX9_areDays_2 : decode cX9_areDays 2 = .ok (.if_icmp .lt 13, 3) := by decide +kernel
theorem dX9_areDays_5 : decode cX9_areDays 5 = .ok (.iload_n 0, 1) := by decide +kernel
theorem dX9_areDays_6 : decode cX9_areDays 6 = .ok (.bipush 30, 2) := by decide +kernel
theorem dX9_areDays_8 : decode cX9_areDays 8 = .ok (.if_icmp .gt 7, 3) := by decide +kernel
theorem dX9_areDays_11 : decode cX9_areDays 11 = .ok (.iconst 1, 1) := by decide +kernel
theorem dX9_areDays_12 : decode cX9_areDays 12 = .ok (.goto 4, 3) := by decide +kernel
theorem dX9_areDays_15 : decode cX9_areDays 15 = .ok (.iconst 0, 1) := by decide +kernel
theorem dX9_areDays_16 : decode cX9_areDays 16 = .ok (.ireturn, 1) := by decide +kernel
theorem dX9_canPass_0 : decode cX9_canPass 0 = .ok (.iload_n 1, 1) := by decide +kernel
theorem dX9_canPass_1 : decode cX9_canPass 1 = .ok (.invokestatic 104, 3) := by decide +kernel
theorem dX9_canPass_4 : decode cX9_canPass 4 = .ok (.ifCond .eq 17, 3) := by decide +kernel
theorem dX9_canPass_7 : decode cX9_canPass 7 = .ok (.aload_n 0, 1) := by decide +kernel
theorem dX9_canPass_8 : decode cX9_canPass 8 = .ok (.getfield 19, 3) := by decide +kernel
theorem dX9_canPass_11 : decode cX9_canPass 11 = .ok (.getfield 97, 3) := by decide +kernel
theorem dX9_canPass_14 : decode cX9_canPass 14 = .ok (.ifCond .le 7, 3) := by decide +kernel
theorem dX9_canPass_17 : decode cX9_canPass 17 = .ok (.iconst 1, 1) := by decide +kernel
theorem dX9_canPass_18 : decode cX9_canPass 18 = .ok (.goto 4, 3) := by decide +kernel
theorem dX9_canPass_21 : decode cX9_canPass 21 = .ok (.iconst 0, 1) := by decide +kernel
theorem dX9_canPass_22 : decode cX9_canPass 22 = .ok (.ireturn, 1) := by decide +kernel
theorem dX9_isWay_0 : decode cX9_isWay 0 = .ok (.lload_n 0, 1) := by decide +kernel
theorem dX9_isWay_1 : decode cX9_isWay 1 = .ok (.lconst 0, 1) := by decide +kernel
theorem dX9_isWay_2 : decode cX9_isWay 2 = .ok (.lcmp, 1) := by decide +kernel
theorem dX9_isWay_3 : decode cX9_isWay 3 = .ok (.ifCond .lt 15, 3) := by decide +kernel
theorem dX9_isWay_6 : decode cX9_isWay 6 = .ok (.lload_n 0, 1) := by decide +kernel
theorem dX9_isWay_7 : decode cX9_isWay 7 = .ok (.ldc2_w 108, 3) := by decide +kernel
theorem dX9_isWay_10 : decode cX9_isWay 10 = .ok (.lcmp, 1) := by decide +kernel
theorem dX9_isWay_11 : decode cX9_isWay 11 = .ok (.ifCond .ge 7, 3) := by decide +kernel
theorem dX9_isWay_14 : decode cX9_isWay 14 = .ok (.iconst 1, 1) := by decide +kernel
theorem dX9_isWay_15 : decode cX9_isWay 15 = .ok (.goto 4, 3) := by decide +kernel
theorem dX9_isWay_18 : decode cX9_isWay 18 = .ok (.iconst 0, 1) := by decide +kernel
theorem dX9_isWay_19 : decode cX9_isWay 19 = .ok (.ireturn, 1) := by decide +kernel
theorem dX9_person_0 : decode cX9_person 0 = .ok (.aload_n 0, 1) := by decide +kernel
theorem dX9_person_1 : decode cX9_person 1 = .ok (.iload_n 1, 1) := by decide +kernel
theorem dX9_person_2 : decode cX9_person 2 = .ok (.i2l, 1) := by decide +kernel
theorem dX9_person_3 : decode cX9_person 3 = .ok (.invokevirtual 100, 3) := by decide +kernel
theorem dX9_person_6 : decode cX9_person 6 = .ok (.ifCond .ne 6, 3) := by decide +kernel
theorem dX9_person_9 : decode cX9_person 9 = .ok (.bipush (-2), 2) := by decide +kernel
theorem dX9_person_11 : decode cX9_person 11 = .ok (.ireturn, 1) := by decide +kernel
theorem dX9_person_12 : decode cX9_person 12 = .ok (.aload_n 0, 1) := by decide +kernel
theorem dX9_person_13 : decode cX9_person 13 = .ok (.getfield 19, 3) := by decide +kernel
theorem dX9_person_16 : decode cX9_person 16 = .ok (.getfield 110, 3) := by decide +kernel
theorem dX9_person_19 : decode cX9_person 19 = .ok (.iload_n 1, 1) := by decide +kernel
theorem dX9_person_20 : decode cX9_person 20 = .ok (.aaload, 1) := by decide +kernel
theorem dX9_person_21 : decode cX9_person 21 = .ok (.astore_n 3, 1) := by decide +kernel
theorem dX9_person_22 : decode cX9_person 22 = .ok (.iload_n 2, 1) := by decide +kernel
theorem dX9_person_23 : decode cX9_person 23 = .ok (.tableswitch 49 0 3 #[29, 34, 39, 44], 29) := by decide +kernel
theorem dX9_person_52 : decode cX9_person 52 = .ok (.aload_n 3, 1) := by decide +kernel
theorem dX9_person_53 : decode cX9_person 53 = .ok (.getfield 114, 3) := by decide +kernel
theorem dX9_person_56 : decode cX9_person 56 = .ok (.ireturn, 1) := by decide +kernel
theorem dX9_person_57 : decode cX9_person 57 = .ok (.aload_n 3, 1) := by decide +kernel
theorem dX9_person_58 : decode cX9_person 58 = .ok (.getfield 119, 3) := by decide +kernel
theorem dX9_person_61 : decode cX9_person 61 = .ok (.ireturn, 1) := by decide +kernel
theorem dX9_person_62 : decode cX9_person 62 = .ok (.aload_n 3, 1) := by decide +kernel
theorem dX9_person_63 : decode cX9_person 63 = .ok (.getfield 122, 3) := by decide +kernel
theorem dX9_person_66 : decode cX9_person 66 = .ok (.ireturn, 1) := by decide +kernel
theorem dX9_person_67 : decode cX9_person 67 = .ok (.aload_n 3, 1) := by decide +kernel
theorem dX9_person_68 : decode cX9_person 68 = .ok (.getfield 125, 3) := by decide +kernel
theorem dX9_person_71 : decode cX9_person 71 = .ok (.ireturn, 1) := by decide +kernel
theorem dX9_person_72 : decode cX9_person 72 = .ok (.bipush (-2), 2) := by decide +kernel
theorem dX9_person_74 : decode cX9_person 74 = .ok (.ireturn, 1) := by decide +kernel
theorem dX9_have_0 : decode cX9_have 0 = .ok (.aload_n 0, 1) := by decide +kernel
theorem dX9_have_1 : decode cX9_have 1 = .ok (.iload_n 1, 1) := by decide +kernel
theorem dX9_have_2 : decode cX9_have 2 = .ok (.i2l, 1) := by decide +kernel
theorem dX9_have_3 : decode cX9_have 3 = .ok (.invokevirtual 100, 3) := by decide +kernel
theorem dX9_have_6 : decode cX9_have 6 = .ok (.ifCond .eq 18, 3) := by decide +kernel
theorem dX9_have_9 : decode cX9_have 9 = .ok (.iload_n 2, 1) := by decide +kernel
theorem dX9_have_10 : decode cX9_have 10 = .ok (.ifCond .lt 14, 3) := by decide +kernel
theorem dX9_have_13 : decode cX9_have 13 = .ok (.iload_n 2, 1) := by decide +kernel
theorem dX9_have_14 : decode cX9_have 14 = .ok (.aload_n 0, 1) := by decide +kernel
theorem dX9_have_15 : decode cX9_have 15 = .ok (.getfield 19, 3) := by decide +kernel
theorem dX9_have_18 : decode cX9_have 18 = .ok (.getfield 128, 3) := by decide +kernel
theorem dX9_have_21 : decode cX9_have 21 = .ok (.if_icmp .le 6, 3) := by decide +kernel
theorem dX9_have_24 : decode cX9_have 24 = .ok (.bipush (-2), 2) := by decide +kernel
theorem dX9_have_26 : decode cX9_have 26 = .ok (.ireturn, 1) := by decide +kernel
theorem dX9_have_27 : decode cX9_have 27 = .ok (.aload_n 0, 1) := by decide +kernel
theorem dX9_have_28 : decode cX9_have 28 = .ok (.getfield 19, 3) := by decide +kernel
theorem dX9_have_31 : decode cX9_have 31 = .ok (.getfield 110, 3) := by decide +kernel
theorem dX9_have_34 : decode cX9_have 34 = .ok (.iload_n 1, 1) := by decide +kernel
theorem dX9_have_35 : decode cX9_have 35 = .ok (.aaload, 1) := by decide +kernel
theorem dX9_have_36 : decode cX9_have 36 = .ok (.getfield 114, 3) := by decide +kernel
theorem dX9_have_39 : decode cX9_have 39 = .ok (.istore_n 3, 1) := by decide +kernel
theorem dX9_have_40 : decode cX9_have 40 = .ok (.aload_n 0, 1) := by decide +kernel
theorem dX9_have_41 : decode cX9_have 41 = .ok (.getfield 19, 3) := by decide +kernel
theorem dX9_have_44 : decode cX9_have 44 = .ok (.getfield 110, 3) := by decide +kernel
theorem dX9_have_47 : decode cX9_have 47 = .ok (.iload_n 1, 1) := by decide +kernel
theorem dX9_have_48 : decode cX9_have 48 = .ok (.aaload, 1) := by decide +kernel
theorem dX9_have_49 : decode cX9_have 49 = .ok (.iload_n 2, 1) := by decide +kernel
theorem dX9_have_50 : decode cX9_have 50 = .ok (.aload_n 0, 1) := by decide +kernel
theorem dX9_have_51 : decode cX9_have 51 = .ok (.getfield 19, 3) := by decide +kernel
theorem dX9_have_54 : decode cX9_have 54 = .ok (.getfield 128, 3) := by decide +kernel
theorem dX9_have_57 : decode cX9_have 57 = .ok (.invokevirtual 131, 3) := by decide +kernel
theorem dX9_have_60 : decode cX9_have 60 = .ok (.iload_n 3, 1) := by decide +kernel
theorem dX9_have_61 : decode cX9_have 61 = .ok (.ireturn, 1) := by decide +kernel
theorem dX9_hide_0 : decode cX9_hide 0 = .ok (.aload_n 0, 1) := by decide +kernel
theorem dX9_hide_1 : decode cX9_hide 1 = .ok (.iload_n 1, 1) := by decide +kernel
theorem dX9_hide_2 : decode cX9_hide 2 = .ok (.i2l, 1) := by decide +kernel
theorem dX9_hide_3 : decode cX9_hide 3 = .ok (.invokevirtual 100, 3) := by decide +kernel
theorem dX9_hide_6 : decode cX9_hide 6 = .ok (.ifCond .eq 13, 3) := by decide +kernel
theorem dX9_hide_9 : decode cX9_hide 9 = .ok (.iload_n 2, 1) := by decide +kernel
theorem dX9_hide_10 : decode cX9_hide 10 = .ok (.ifCond .lt 9, 3) := by decide +kernel
theorem dX9_hide_13 : decode cX9_hide 13 = .ok (.iload_n 2, 1) := by decide +kernel
theorem dX9_hide_14 : decode cX9_hide 14 = .ok (.bipush 30, 2) := by decide +kernel
theorem dX9_hide_16 : decode cX9_hide 16 = .ok (.if_icmp .le 6, 3) := by decide +kernel
theorem dX9_hide_19 : decode cX9_hide 19 = .ok (.bipush (-2), 2) := by decide +kernel
theorem dX9_hide_21 : decode cX9_hide 21 = .ok (.ireturn, 1) := by decide +kernel
theorem dX9_hide_22 : decode cX9_hide 22 = .ok (.aload_n 0, 1) := by decide +kernel
theorem dX9_hide_23 : decode cX9_hide 23 = .ok (.getfield 19, 3) := by decide +kernel
theorem dX9_hide_26 : decode cX9_hide 26 = .ok (.getfield 110, 3) := by decide +kernel
theorem dX9_hide_29 : decode cX9_hide 29 = .ok (.iload_n 1, 1) := by decide +kernel
theorem dX9_hide_30 : decode cX9_hide 30 = .ok (.aaload, 1) := by decide +kernel
theorem dX9_hide_31 : decode cX9_hide 31 = .ok (.astore_n 3, 1) := by decide +kernel
theorem dX9_hide_32 : decode cX9_hide 32 = .ok (.aload_n 3, 1) := by decide +kernel
theorem dX9_hide_33 : decode cX9_hide 33 = .ok (.iload_n 2, 1) := by decide +kernel
theorem dX9_hide_34 : decode cX9_hide 34 = .ok (.aload_n 3, 1) := by decide +kernel
theorem dX9_hide_35 : decode cX9_hide 35 = .ok (.getfield 114, 3) := by decide +kernel
theorem dX9_hide_38 : decode cX9_hide 38 = .ok (.invokestatic 135, 3) := by decide +kernel
theorem dX9_hide_41 : decode cX9_hide 41 = .ok (.putfield 119, 3) := by decide +kernel
theorem dX9_hide_44 : decode cX9_hide 44 = .ok (.aload_n 3, 1) := by decide +kernel
theorem dX9_hide_45 : decode cX9_hide 45 = .ok (.getfield 119, 3) := by decide +kernel
theorem dX9_hide_48 : decode cX9_hide 48 = .ok (.ireturn, 1) := by decide +kernel
theorem dX9_seen_0 : decode cX9_seen 0 = .ok (.aload_n 0, 1) := by decide +kernel
theorem dX9_seen_1 : decode cX9_seen 1 = .ok (.iload_n 1, 1) := by decide +kernel
theorem dX9_seen_2 : decode cX9_seen 2 = .ok (.iload_n 2, 1) := by decide +kernel
theorem dX9_seen_3 : decode cX9_seen 3 = .ok (.invokevirtual 141, 3) := by decide +kernel
theorem dX9_seen_6 : decode cX9_seen 6 = .ok (.ifCond .eq 15, 3) := by decide +kernel
theorem dX9_seen_9 : decode cX9_seen 9 = .ok (.aload_n 0, 1) := by decide +kernel
theorem dX9_seen_10 : decode cX9_seen 10 = .ok (.getfield 19, 3) := by decide +kernel
theorem dX9_seen_13 : decode cX9_seen 13 = .ok (.iload_n 1, 1) := by decide +kernel
theorem dX9_seen_14 : decode cX9_seen 14 = .ok (.iload_n 2, 1) := by decide +kernel
theorem dX9_seen_15 : decode cX9_seen 15 = .ok (.invokevirtual 145, 3) := by decide +kernel
theorem dX9_seen_18 : decode cX9_seen 18 = .ok (.goto 5, 3) := by decide +kernel
theorem dX9_seen_21 : decode cX9_seen 21 = .ok (.bipush (-2), 2) := by decide +kernel
theorem dX9_seen_23 : decode cX9_seen 23 = .ok (.ireturn, 1) := by decide +kernel
theorem dX9_sight_0 : decode cX9_sight 0 = .ok (.aload_n 0, 1) := by decide +kernel
theorem dX9_sight_1 : decode cX9_sight 1 = .ok (.iload_n 1, 1) := by decide +kernel
theorem dX9_sight_2 : decode cX9_sight 2 = .ok (.iload_n 2, 1) := by decide +kernel
theorem dX9_sight_3 : decode cX9_sight 3 = .ok (.invokevirtual 141, 3) := by decide +kernel
theorem dX9_sight_6 : decode cX9_sight 6 = .ok (.ifCond .eq 14, 3) := by decide +kernel
theorem dX9_sight_9 : decode cX9_sight 9 = .ok (.iload_n 3, 1) := by decide +kernel
theorem dX9_sight_10 : decode cX9_sight 10 = .ok (.iconst 1, 1) := by decide +kernel
theorem dX9_sight_11 : decode cX9_sight 11 = .ok (.if_icmp .lt 9, 3) := by decide +kernel
theorem dX9_sight_14 : decode cX9_sight 14 = .ok (.iload_n 3, 1) := by decide +kernel
theorem dX9_sight_15 : decode cX9_sight 15 = .ok (.bipush 30, 2) := by decide +kernel
theorem dX9_sight_17 : decode cX9_sight 17 = .ok (.if_icmp .le 6, 3) := by decide +kernel
theorem dX9_sight_20 : decode cX9_sight 20 = .ok (.bipush (-2), 2) := by decide +kernel
theorem dX9_sight_22 : decode cX9_sight 22 = .ok (.ireturn, 1) := by decide +kernel
theorem dX9_sight_23 : decode cX9_sight 23 = .ok (.iload_n 1, 1) := by decide +kernel
theorem dX9_sight_24 : decode cX9_sight 24 = .ok (.bipush 8, 2) := by decide +kernel
theorem dX9_sight_26 : decode cX9_sight 26 = .ok (.imul, 1) := by decide +kernel
theorem dX9_sight_27 : decode cX9_sight 27 = .ok (.iload_n 2, 1) := by decide +kernel
theorem dX9_sight_28 : decode cX9_sight 28 = .ok (.iadd, 1) := by decide +kernel
theorem dX9_sight_29 : decode cX9_sight 29 = .ok (.istore 4, 2) := by decide +kernel
theorem dX9_sight_31 : decode cX9_sight 31 = .ok (.aload_n 0, 1) := by decide +kernel
theorem dX9_sight_32 : decode cX9_sight 32 = .ok (.getfield 19, 3) := by decide +kernel
theorem dX9_sight_35 : decode cX9_sight 35 = .ok (.getfield 148, 3) := by decide +kernel
theorem dX9_sight_38 : decode cX9_sight 38 = .ok (.iload 4, 2) := by decide +kernel
theorem dX9_sight_40 : decode cX9_sight 40 = .ok (.iaload, 1) := by decide +kernel
theorem dX9_sight_41 : decode cX9_sight 41 = .ok (.istore 5, 2) := by decide +kernel
theorem dX9_sight_43 : decode cX9_sight 43 = .ok (.aload_n 0, 1) := by decide +kernel
theorem dX9_sight_44 : decode cX9_sight 44 = .ok (.getfield 19, 3) := by decide +kernel
theorem dX9_sight_47 : decode cX9_sight 47 = .ok (.getfield 148, 3) := by decide +kernel
theorem dX9_sight_50 : decode cX9_sight 50 = .ok (.iload 4, 2) := by decide +kernel
theorem dX9_sight_52 : decode cX9_sight 52 = .ok (.iload_n 3, 1) := by decide +kernel
theorem dX9_sight_53 : decode cX9_sight 53 = .ok (.iastore, 1) := by decide +kernel
theorem dX9_sight_54 : decode cX9_sight 54 = .ok (.iload 5, 2) := by decide +kernel
theorem dX9_sight_56 : decode cX9_sight 56 = .ok (.ireturn, 1) := by decide +kernel
theorem dX9_tops_0 : decode cX9_tops 0 = .ok (.aload_n 0, 1) := by decide +kernel
theorem dX9_tops_1 : decode cX9_tops 1 = .ok (.getfield 19, 3) := by decide +kernel
theorem dX9_tops_4 : decode cX9_tops 4 = .ok (.getfield 97, 3) := by decide +kernel
theorem dX9_tops_7 : decode cX9_tops 7 = .ok (.ifCond .ne 6, 3) := by decide +kernel
theorem dX9_tops_10 : decode cX9_tops 10 = .ok (.bipush (-2), 2) := by decide +kernel
theorem dX9_tops_12 : decode cX9_tops 12 = .ok (.ireturn, 1) := by decide +kernel
