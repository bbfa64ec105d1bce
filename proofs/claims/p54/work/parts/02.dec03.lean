theorem dX6_readPerson_34 : decode cX6_readPerson 34 = .ok (.aload_n 0, 1) := by decide +kernel
theorem dX6_readPerson_35 : decode cX6_readPerson 35 = .ok (.getfield 18, 3) := by decide +kernel
theorem dX6_readPerson_38 : decode cX6_readPerson 38 = .ok (.invokevirtual 174, 3) := by decide +kernel
theorem dX6_readPerson_41 : decode cX6_readPerson 41 = .ok (.aload_n 0, 1) := by decide +kernel
theorem dX6_readPerson_42 : decode cX6_readPerson 42 = .ok (.ldc 80, 2) := by decide +kernel
theorem dX6_readPerson_44 : decode cX6_readPerson 44 = .ok (.invokevirtual 59, 3) := by decide +kernel
theorem dX6_readPerson_47 : decode cX6_readPerson 47 = .ok (.aload_n 1, 1) := by decide +kernel
theorem dX6_readPerson_48 : decode cX6_readPerson 48 = .ok (.aload_n 0, 1) := by decide +kernel
theorem dX6_readPerson_49 : decode cX6_readPerson 49 = .ok (.ldc 177, 2) := by decide +kernel
theorem dX6_readPerson_51 : decode cX6_readPerson 51 = .ok (.iconst 0, 1) := by decide +kernel
theorem dX6_readPerson_52 : decode cX6_readPerson 52 = .ok (.aload_n 0, 1) := by decide +kernel
theorem dX6_readPerson_53 : decode cX6_readPerson 53 = .ok (.getfield 18, 3) := by decide +kernel
theorem dX6_readPerson_56 : decode cX6_readPerson 56 = .ok (.getfield 69, 3) := by decide +kernel
theorem dX6_readPerson_59 : decode cX6_readPerson 59 = .ok (.invokevirtual 65, 3) := by decide +kernel
theorem dX6_readPerson_62 : decode cX6_readPerson 62 = .ok (.putfield 179, 3) := by decide +kernel
theorem dX6_readPerson_65 : decode cX6_readPerson 65 = .ok (.aload_n 1, 1) := by decide +kernel
theorem dX6_readPerson_66 : decode cX6_readPerson 66 = .ok (.aload_n 0, 1) := by decide +kernel
theorem dX6_readPerson_67 : decode cX6_readPerson 67 = .ok (.ldc 183, 2) := by decide +kernel
theorem dX6_readPerson_69 : decode cX6_readPerson 69 = .ok (.iconst 0, 1) := by decide +kernel
theorem dX6_readPerson_70 : decode cX6_readPerson 70 = .ok (.bipush 9, 2) := by decide +kernel
theorem dX6_readPerson_72 : decode cX6_readPerson 72 = .ok (.invokevirtual 65, 3) := by decide +kernel
theorem dX6_readPerson_75 : decode cX6_readPerson 75 = .ok (.putfield 185, 3) := by decide +kernel
theorem dX6_readPerson_78 : decode cX6_readPerson 78 = .ok (.aload_n 1, 1) := by decide +kernel
theorem dX6_readPerson_79 : decode cX6_readPerson 79 = .ok (.aload_n 0, 1) := by decide +kernel
theorem dX6_readPerson_80 : decode cX6_readPerson 80 = .ok (.ldc 187, 2) := by decide +kernel
theorem dX6_readPerson_82 : decode cX6_readPerson 82 = .ok (.iconst 0, 1) := by decide +kernel
theorem dX6_readPerson_83 : decode cX6_readPerson 83 = .ok (.bipush 99, 2) := by decide +kernel
theorem dX6_readPerson_85 : decode cX6_readPerson 85 = .ok (.invokevirtual 65, 3) := by decide +kernel
theorem dX6_readPerson_88 : decode cX6_readPerson 88 = .ok (.putfield 189, 3) := by decide +kernel
theorem dX6_readPerson_91 : decode cX6_readPerson 91 = .ok (.aload_n 1, 1) := by decide +kernel
theorem dX6_readPerson_92 : decode cX6_readPerson 92 = .ok (.aload_n 0, 1) := by decide +kernel
theorem dX6_readPerson_93 : decode cX6_readPerson 93 = .ok (.ldc 191, 2) := by decide +kernel
theorem dX6_readPerson_95 : decode cX6_readPerson 95 = .ok (.iconst 0, 1) := by decide +kernel
theorem dX6_readPerson_96 : decode cX6_readPerson 96 = .ok (.bipush 99, 2) := by decide +kernel
theorem dX6_readPerson_98 : decode cX6_readPerson 98 = .ok (.invokevirtual 65, 3) := by decide +kernel
theorem dX6_readPerson_101 : decode cX6_readPerson 101 = .ok (.putfield 193, 3) := by decide +kernel
theorem dX6_readPerson_104 : decode cX6_readPerson 104 = .ok (.aload_n 1, 1) := by decide +kernel
theorem dX6_readPerson_105 : decode cX6_readPerson 105 = .ok (.aload_n 0, 1) := by decide +kernel
theorem dX6_readPerson_106 : decode cX6_readPerson 106 = .ok (.ldc 195, 2) := by decide +kernel
theorem dX6_readPerson_108 : decode cX6_readPerson 108 = .ok (.iconst 0, 1) := by decide +kernel
theorem dX6_readPerson_109 : decode cX6_readPerson 109 = .ok (.bipush 99, 2) := by decide +kernel
theorem dX6_readPerson_111 : decode cX6_readPerson 111 = .ok (.invokevirtual 65, 3) := by decide +kernel
theorem dX6_readPerson_114 : decode cX6_readPerson 114 = .ok (.putfield 197, 3) := by decide +kernel
theorem dX6_readPerson_117 : decode cX6_readPerson 117 = .ok (.aload_n 1, 1) := by decide +kernel
theorem dX6_readPerson_118 : decode cX6_readPerson 118 = .ok (.aload_n 0, 1) := by decide +kernel
theorem dX6_readPerson_119 : decode cX6_readPerson 119 = .ok (.ldc 199, 2) := by decide +kernel
theorem dX6_readPerson_121 : decode cX6_readPerson 121 = .ok (.iconst 0, 1) := by decide +kernel
theorem dX6_readPerson_122 : decode cX6_readPerson 122 = .ok (.bipush 99, 2) := by decide +kernel
theorem dX6_readPerson_124 : decode cX6_readPerson 124 = .ok (.invokevirtual 65, 3) := by decide +kernel
theorem dX6_readPerson_127 : decode cX6_readPerson 127 = .ok (.putfield 201, 3) := by decide +kernel
theorem dX6_readPerson_130 : decode cX6_readPerson 130 = .ok (.aload_n 0, 1) := by decide +kernel
theorem dX6_readPerson_131 : decode cX6_readPerson 131 = .ok (.aload_n 1, 1) := by decide +kernel
theorem dX6_readPerson_132 : decode cX6_readPerson 132 = .ok (.invokevirtual 203, 3) := by decide +kernel
theorem dX6_readPerson_135 : decode cX6_readPerson 135 = .ok (.return_, 1) := by decide +kernel
theorem dX6_readWay_0 : decode cX6_readWay 0 = .ok (.aload_n 0, 1) := by decide +kernel
theorem dX6_readWay_1 : decode cX6_readWay 1 = .ok (.ldc 207, 2) := by decide +kernel
theorem dX6_readWay_3 : decode cX6_readWay 3 = .ok (.invokevirtual 154, 3) := by decide +kernel
theorem dX6_readWay_6 : decode cX6_readWay 6 = .ok (.ifCond .eq 11, 3) := by decide +kernel
theorem dX6_readWay_9 : decode cX6_readWay 9 = .ok (.aload_n 1, 1) := by decide +kernel
theorem dX6_readWay_10 : decode cX6_readWay 10 = .ok (.iconst 0, 1) := by decide +kernel
theorem dX6_readWay_11 : decode cX6_readWay 11 = .ok (.putfield 209, 3) := by decide +kernel
theorem dX6_readWay_14 : decode cX6_readWay 14 = .ok (.goto 102, 3) := by decide +kernel
theorem dX6_readWay_17 : decode cX6_readWay 17 = .ok (.aload_n 0, 1) := by decide +kernel
theorem dX6_readWay_18 : decode cX6_readWay 18 = .ok (.ldc 212, 2) := by decide +kernel
theorem dX6_readWay_20 : decode cX6_readWay 20 = .ok (.invokevirtual 154, 3) := by decide +kernel
theorem dX6_readWay_23 : decode cX6_readWay 23 = .ok (.ifCond .eq 11, 3) := by decide +kernel
theorem dX6_readWay_26 : decode cX6_readWay 26 = .ok (.aload_n 1, 1) := by decide +kernel
theorem dX6_readWay_27 : decode cX6_readWay 27 = .ok (.iconst 1, 1) := by decide +kernel
theorem dX6_readWay_28 : decode cX6_readWay 28 = .ok (.putfield 209, 3) := by decide +kernel
theorem dX6_readWay_31 : decode cX6_readWay 31 = .ok (.goto 85, 3) := by decide +kernel
theorem dX6_readWay_34 : decode cX6_readWay 34 = .ok (.aload_n 0, 1) := by decide +kernel
theorem dX6_readWay_35 : decode cX6_readWay 35 = .ok (.ldc 214, 2) := by decide +kernel
theorem dX6_readWay_37 : decode cX6_readWay 37 = .ok (.invokevirtual 154, 3) := by decide +kernel
theorem dX6_readWay_40 : decode cX6_readWay 40 = .ok (.ifCond .eq 11, 3) := by decide +kernel
theorem dX6_readWay_43 : decode cX6_readWay 43 = .ok (.aload_n 1, 1) := by decide +kernel
theorem dX6_readWay_44 : decode cX6_readWay 44 = .ok (.iconst 4, 1) := by decide +kernel
theorem dX6_readWay_45 : decode cX6_readWay 45 = .ok (.putfield 209, 3) := by decide +kernel
theorem dX6_readWay_48 : decode cX6_readWay 48 = .ok (.goto 68, 3) := by decide +kernel
theorem dX6_readWay_51 : decode cX6_readWay 51 = .ok (.aload_n 0, 1) := by decide +kernel
theorem dX6_readWay_52 : decode cX6_readWay 52 = .ok (.ldc 216, 2) := by decide +kernel
theorem dX6_readWay_54 : decode cX6_readWay 54 = .ok (.invokevirtual 154, 3) := by decide +kernel
theorem dX6_readWay_57 : decode cX6_readWay 57 = .ok (.ifCond .eq 11, 3) := by decide +kernel
theorem dX6_readWay_60 : decode cX6_readWay 60 = .ok (.aload_n 1, 1) := by decide +kernel
theorem dX6_readWay_61 : decode cX6_readWay 61 = .ok (.iconst 5, 1) := by decide +kernel
theorem dX6_readWay_62 : decode cX6_readWay 62 = .ok (.putfield 209, 3) := by decide +kernel
theorem dX6_readWay_65 : decode cX6_readWay 65 = .ok (.goto 51, 3) := by decide +kernel
theorem dX6_readWay_68 : decode cX6_readWay 68 = .ok (.aload_n 0, 1) := by decide +kernel
theorem dX6_readWay_69 : decode cX6_readWay 69 = .ok (.ldc 218, 2) := by decide +kernel
theorem dX6_readWay_71 : decode cX6_readWay 71 = .ok (.invokevirtual 73, 3) := by decide +kernel
theorem dX6_readWay_74 : decode cX6_readWay 74 = .ok (.ifCond .eq 24, 3) := by decide +kernel
theorem dX6_readWay_77 : decode cX6_readWay 77 = .ok (.aload_n 1, 1) := by decide +kernel
theorem dX6_readWay_78 : decode cX6_readWay 78 = .ok (.iconst 3, 1) := by decide +kernel
theorem dX6_readWay_79 : decode cX6_readWay 79 = .ok (.putfield 209, 3) := by decide +kernel
theorem dX6_readWay_82 : decode cX6_readWay 82 = .ok (.aload_n 1, 1) := by decide +kernel
theorem dX6_readWay_83 : decode cX6_readWay 83 = .ok (.aload_n 0, 1) := by decide +kernel
theorem dX6_readWay_84 : decode cX6_readWay 84 = .ok (.ldc 218, 2) := by decide +kernel
theorem dX6_readWay_86 : decode cX6_readWay 86 = .ok (.iconst 0, 1) := by decide +kernel
theorem dX6_readWay_87 : decode cX6_readWay 87 = .ok (.bipush 30, 2) := by decide +kernel
theorem dX6_readWay_89 : decode cX6_readWay 89 = .ok (.invokevirtual 65, 3) := by decide +kernel
theorem dX6_readWay_92 : decode cX6_readWay 92 = .ok (.putfield 220, 3) := by decide +kernel
theorem dX6_readWay_95 : decode cX6_readWay 95 = .ok (.goto 21, 3) := by decide +kernel
theorem dX6_readWay_98 : decode cX6_readWay 98 = .ok (.aload_n 1, 1) := by decide +kernel
theorem dX6_readWay_99 : decode cX6_readWay 99 = .ok (.iconst 2, 1) := by decide +kernel
theorem dX6_readWay_100 : decode cX6_readWay 100 = .ok (.putfield 209, 3) := by decide +kernel
theorem dX6_readWay_103 : decode cX6_readWay 103 = .ok (.aload_n 1, 1) := by decide +kernel
theorem dX6_readWay_104 : decode cX6_readWay 104 = .ok (.aload_n 0, 1) := by decide +kernel
theorem dX6_readWay_105 : decode cX6_readWay 105 = .ok (.ldc 223, 2) := by decide +kernel
theorem dX6_readWay_107 : decode cX6_readWay 107 = .ok (.iconst 0, 1) := by decide +kernel
theorem dX6_readWay_108 : decode cX6_readWay 108 = .ok (.bipush 7, 2) := by decide +kernel
theorem dX6_readWay_110 : decode cX6_readWay 110 = .ok (.invokevirtual 65, 3) := by decide +kernel
theorem dX6_readWay_113 : decode cX6_readWay 113 = .ok (.putfield 220, 3) := by decide +kernel
theorem dX6_readWay_116 : decode cX6_readWay 116 = .ok (.return_, 1) := by decide +kernel
theorem dX6_readSight_0 : decode cX6_readSight 0 = .ok (.aload_n 0, 1) := by decide +kernel
theorem dX6_readSight_1 : decode cX6_readSight 1 = .ok (.getfield 42, 3) := by decide +kernel
theorem dX6_readSight_4 : decode cX6_readSight 4 = .ok (.bipush 12, 2) := by decide +kernel
theorem dX6_readSight_6 : decode cX6_readSight 6 = .ok (.if_icmp .lt 9, 3) := by decide +kernel
theorem dX6_readSight_9 : decode cX6_readSight 9 = .ok (.aload_n 0, 1) := by decide +kernel
theorem dX6_readSight_10 : decode cX6_readSight 10 = .ok (.iconst 3, 1) := by decide +kernel
theorem dX6_readSight_11 : decode cX6_readSight 11 = .ok (.invokevirtual 95, 3) := by decide +kernel
theorem dX6_readSight_14 : decode cX6_readSight 14 = .ok (.return_, 1) := by decide +kernel
theorem dX6_readSight_15 : decode cX6_readSight 15 = .ok (.aload_n 0, 1) := by decide +kernel
theorem dX6_readSight_16 : decode cX6_readSight 16 = .ok (.dup, 1) := by decide +kernel
theorem dX6_readSight_17 : decode cX6_readSight 17 = .ok (.getfield 42, 3) := by decide +kernel
theorem dX6_readSight_20 : decode cX6_readSight 20 = .ok (.iconst 1, 1) := by decide +kernel
theorem dX6_readSight_21 : decode cX6_readSight 21 = .ok (.iadd, 1) := by decide +kernel
theorem dX6_readSight_22 : decode cX6_readSight 22 = .ok (.putfield 42, 3) := by decide +kernel
theorem dX6_readSight_25 : decode cX6_readSight 25 = .ok (.aload_n 0, 1) := by decide +kernel
theorem dX6_readSight_26 : decode cX6_readSight 26 = .ok (.ldc 85, 2) := by decide +kernel
theorem dX6_readSight_28 : decode cX6_readSight 28 = .ok (.iconst 0, 1) := by decide +kernel
theorem dX6_readSight_29 : decode cX6_readSight 29 = .ok (.aload_n 0, 1) := by decide +kernel
theorem dX6_readSight_30 : decode cX6_readSight 30 = .ok (.getfield 18, 3) := by decide +kernel
theorem dX6_readSight_33 : decode cX6_readSight 33 = .ok (.getfield 167, 3) := by decide +kernel
theorem dX6_readSight_36 : decode cX6_readSight 36 = .ok (.iconst 1, 1) := by decide +kernel
theorem dX6_readSight_37 : decode cX6_readSight 37 = .ok (.isub, 1) := by decide +kernel
theorem dX6_readSight_38 : decode cX6_readSight 38 = .ok (.invokevirtual 65, 3) := by decide +kernel
theorem dX6_readSight_41 : decode cX6_readSight 41 = .ok (.istore_n 1, 1) := by decide +kernel
theorem dX6_readSight_42 : decode cX6_readSight 42 = .ok (.aload_n 0, 1) := by decide +kernel
theorem dX6_readSight_43 : decode cX6_readSight 43 = .ok (.getfield 51, 3) := by decide +kernel
theorem dX6_readSight_46 : decode cX6_readSight 46 = .ok (.iconst 2, 1) := by decide +kernel
theorem dX6_readSight_47 : decode cX6_readSight 47 = .ok (.if_icmp .ne 16, 3) := by decide +kernel
theorem dX6_readSight_50 : decode cX6_readSight 50 = .ok (.aload_n 0, 1) := by decide +kernel
theorem dX6_readSight_51 : decode cX6_readSight 51 = .ok (.getfield 109, 3) := by decide +kernel
theorem dX6_readSight_54 : decode cX6_readSight 54 = .ok (.iload_n 1, 1) := by decide +kernel
theorem dX6_readSight_55 : decode cX6_readSight 55 = .ok (.if_icmp .ne 8, 3) := by decide +kernel
theorem dX6_readSight_58 : decode cX6_readSight 58 = .ok (.aload_n 0, 1) := by decide +kernel
theorem dX6_readSight_59 : decode cX6_readSight 59 = .ok (.iconst 2, 1) := by decide +kernel
theorem dX6_readSight_60 : decode cX6_readSight 60 = .ok (.invokevirtual 95, 3) := by decide +kernel
theorem dX6_readSight_63 : decode cX6_readSight 63 = .ok (.aload_n 0, 1) := by decide +kernel
theorem dX6_readSight_64 : decode cX6_readSight 64 = .ok (.iconst 0, 1) := by decide +kernel
theorem dX6_readSight_65 : decode cX6_readSight 65 = .ok (.aload_n 0, 1) := by decide +kernel
theorem dX6_readSight_66 : decode cX6_readSight 66 = .ok (.getfield 18, 3) := by decide +kernel
theorem dX6_readSight_69 : decode cX6_readSight 69 = .ok (.getfield 167, 3) := by decide +kernel
theorem dX6_readSight_72 : decode cX6_readSight 72 = .ok (.iconst 1, 1) := by decide +kernel
theorem dX6_readSight_73 : decode cX6_readSight 73 = .ok (.isub, 1) := by decide +kernel
theorem dX6_readSight_74 : decode cX6_readSight 74 = .ok (.invokevirtual 129, 3) := by decide +kernel
theorem dX6_readSight_77 : decode cX6_readSight 77 = .ok (.istore_n 2, 1) := by decide +kernel
theorem dX6_readSight_78 : decode cX6_readSight 78 = .ok (.aload_n 0, 1) := by decide +kernel
theorem dX6_readSight_79 : decode cX6_readSight 79 = .ok (.ldc 225, 2) := by decide +kernel
theorem dX6_readSight_81 : decode cX6_readSight 81 = .ok (.iconst 1, 1) := by decide +kernel
theorem dX6_readSight_82 : decode cX6_readSight 82 = .ok (.bipush 30, 2) := by decide +kernel
theorem dX6_readSight_84 : decode cX6_readSight 84 = .ok (.invokevirtual 65, 3) := by decide +kernel
theorem dX6_readSight_87 : decode cX6_readSight 87 = .ok (.istore_n 3, 1) := by decide +kernel
theorem dX6_readSight_88 : decode cX6_readSight 88 = .ok (.aload_n 0, 1) := by decide +kernel
theorem dX6_readSight_89 : decode cX6_readSight 89 = .ok (.getfield 45, 3) := by decide +kernel
theorem dX6_readSight_92 : decode cX6_readSight 92 = .ok (.ifCond .ne 18, 3) := by decide +kernel
theorem dX6_readSight_95 : decode cX6_readSight 95 = .ok (.aload_n 0, 1) := by decide +kernel
theorem dX6_readSight_96 : decode cX6_readSight 96 = .ok (.getfield 18, 3) := by decide +kernel
theorem dX6_readSight_99 : decode cX6_readSight 99 = .ok (.getfield 227, 3) := by decide +kernel
theorem dX6_readSight_102 : decode cX6_readSight 102 = .ok (.iload_n 1, 1) := by decide +kernel
theorem dX6_readSight_103 : decode cX6_readSight 103 = .ok (.bipush 8, 2) := by decide +kernel
theorem dX6_readSight_105 : decode cX6_readSight 105 = .ok (.imul, 1) := by decide +kernel
theorem dX6_readSight_106 : decode cX6_readSight 106 = .ok (.iload_n 2, 1) := by decide +kernel
theorem dX6_readSight_107 : decode cX6_readSight 107 = .ok (.iadd, 1) := by decide +kernel
theorem dX6_readSight_108 : decode cX6_readSight 108 = .ok (.iload_n 3, 1) := by decide +kernel
theorem dX6_readSight_109 : decode cX6_readSight 109 = .ok (.iastore, 1) := by decide +kernel
theorem dX6_readSight_110 : decode cX6_readSight 110 = .ok (.return_, 1) := by decide +kernel
theorem dX7_clear_0 : decode cX7_clear 0 = .ok (.aload_n 0, 1) := by decide +kernel
theorem dX7_clear_1 : decode cX7_clear 1 = .ok (.iconst 0, 1) := by decide +kernel
theorem dX7_clear_2 : decode cX7_clear 2 = .ok (.putfield 39, 3) := by decide +kernel
theorem dX7_clear_5 : decode cX7_clear 5 = .ok (.aload_n 0, 1) := by decide +kernel
theorem dX7_clear_6 : decode cX7_clear 6 = .ok (.iconst 0, 1) := by decide +kernel
theorem dX7_clear_7 : decode cX7_clear 7 = .ok (.putfield 43, 3) := by decide +kernel
theorem dX7_clear_10 : decode cX7_clear 10 = .ok (.aload_n 0, 1) := by decide +kernel
theorem dX7_clear_11 : decode cX7_clear 11 = .ok (.iconst 0, 1) := by decide +kernel
theorem dX7_clear_12 : decode cX7_clear 12 = .ok (.putfield 46, 3) := by decide +kernel
theorem dX7_clear_15 : decode cX7_clear 15 = .ok (.aload_n 0, 1) := by decide +kernel
theorem dX7_clear_16 : decode cX7_clear 16 = .ok (.iconst 0, 1) := by decide +kernel
theorem dX7_clear_17 : decode cX7_clear 17 = .ok (.putfield 49, 3) := by decide +kernel
theorem dX7_clear_20 : decode cX7_clear 20 = .ok (.aload_n 0, 1) := by decide +kernel
theorem dX7_clear_21 : decode cX7_clear 21 = .ok (.iconst 0, 1) := by decide +kernel
theorem dX7_clear_22 : decode cX7_clear 22 = .ok (.putfield 52, 3) := by decide +kernel
theorem dX7_clear_25 : decode cX7_clear 25 = .ok (.aload_n 0, 1) := by decide +kernel
theorem dX7_clear_26 : decode cX7_clear 26 = .ok (.lconst 0, 1) := by decide +kernel
theorem dX7_clear_27 : decode cX7_clear 27 = .ok (.putfield 55, 3) := by decide +kernel
theorem dX7_clear_30 : decode cX7_clear 30 = .ok (.aload_n 0, 1) := by decide +kernel
theorem dX7_clear_31 : decode cX7_clear 31 = .ok (.getfield 12, 3) := by decide +kernel
theorem dX7_clear_34 : decode cX7_clear 34 = .ok (.invokevirtual 59, 3) := by decide +kernel
theorem dX7_clear_37 : decode cX7_clear 37 = .ok (.aload_n 0, 1) := by decide +kernel
theorem dX7_clear_38 : decode cX7_clear 38 = .ok (.getfield 21, 3) := by decide +kernel
theorem dX7_clear_41 : decode cX7_clear 41 = .ok (.iconst 0, 1) := by decide +kernel
theorem dX7_clear_42 : decode cX7_clear 42 = .ok (.putfield 60, 3) := by decide +kernel
theorem dX7_clear_45 : decode cX7_clear 45 = .ok (.iconst 0, 1) := by decide +kernel
theorem dX7_clear_46 : decode cX7_clear 46 = .ok (.istore_n 1, 1) := by decide +kernel
theorem dX7_clear_47 : decode cX7_clear 47 = .ok (.iload_n 1, 1) := by decide +kernel
theorem dX7_clear_48 : decode cX7_clear 48 = .ok (.aload_n 0, 1) := by decide +kernel
theorem dX7_clear_49 : decode cX7_clear 49 = .ok (.getfield 31, 3) := by decide +kernel
theorem dX7_clear_52 : decode cX7_clear 52 = .ok (.arraylength, 1) := by decide +kernel
theorem dX7_clear_53 : decode cX7_clear 53 = .ok (.if_icmp .ge 16, 3) := by decide +kernel
theorem dX7_clear_56 : decode cX7_clear 56 = .ok (.aload_n 0, 1) := by decide +kernel
theorem dX7_clear_57 : decode cX7_clear 57 = .ok (.getfield 31, 3) := by decide +kernel
theorem dX7_clear_60 : decode cX7_clear 60 = .ok (.iload_n 1, 1) := by decide +kernel
theorem dX7_clear_61 : decode cX7_clear 61 = .ok (.iconst 1, 1) := by decide +kernel
theorem dX7_clear_62 : decode cX7_clear 62 = .ok (.iastore, 1) := by decide +kernel
theorem dX7_clear_63 : decode cX7_clear 63 = .ok (.iinc 1 1, 3) := by decide +kernel
theorem dX7_clear_66 : decode cX7_clear 66 = .ok (.goto (-19), 3) := by decide +kernel
theorem dX7_clear_69 : decode cX7_clear 69 = .ok (.return_, 1) := by decide +kernel
theorem dX7_copyFrom_0 : decode cX7_copyFrom 0 = .ok (.aload_n 0, 1) := by decide +kernel
theorem dX7_copyFrom_1 : decode cX7_copyFrom 1 = .ok (.aload_n 1, 1) := by decide +kernel
theorem dX7_copyFrom_2 : decode cX7_copyFrom 2 = .ok (.getfield 39, 3) := by decide +kernel
theorem dX7_copyFrom_5 : decode cX7_copyFrom 5 = .ok (.putfield 39, 3) := by decide +kernel
theorem dX7_copyFrom_8 : decode cX7_copyFrom 8 = .ok (.aload_n 0, 1) := by decide +kernel
theorem dX7_copyFrom_9 : decode cX7_copyFrom 9 = .ok (.aload_n 1, 1) := by decide +kernel
theorem dX7_copyFrom_10 : decode cX7_copyFrom 10 = .ok (.getfield 43, 3) := by decide +kernel
theorem dX7_copyFrom_13 : decode cX7_copyFrom 13 = .ok (.putfield 43, 3) := by decide +kernel
theorem dX7_copyFrom_16 : decode cX7_copyFrom 16 = .ok (.aload_n 0, 1) := by decide +kernel
theorem dX7_copyFrom_17 : decode cX7_copyFrom 17 = .ok (.aload_n 1, 1) := by decide +kernel
theorem dX7_copyFrom_18 : decode cX7_copyFrom 18 = .ok (.getfield 46, 3) := by decide +kernel
theorem dX7_copyFrom_21 : decode cX7_copyFrom 21 = .ok (.putfield 46, 3) := by decide +kernel
theorem dX7_copyFrom_24 : decode cX7_copyFrom 24 = .ok (.aload_n 0, 1) := by decide +kernel
theorem dX7_copyFrom_25 : decode cX7_copyFrom 25 = .ok (.aload_n 1, 1) := by decide +kernel
theorem dX7_copyFrom_26 : decode cX7_copyFrom 26 = .ok (.getfield 49, 3) := by decide +kernel
theorem dX7_copyFrom_29 : decode cX7_copyFrom 29 = .ok (.putfield 49, 3) := by decide +kernel
theorem dX7_copyFrom_32 : decode cX7_copyFrom 32 = .ok (.aload_n 0, 1) := by decide +kernel
theorem dX7_copyFrom_33 : decode cX7_copyFrom 33 = .ok (.aload_n 1, 1) := by decide +kernel
theorem dX7_copyFrom_34 : decode cX7_copyFrom 34 = .ok (.getfield 52, 3) := by decide +kernel
theorem dX7_copyFrom_37 : decode cX7_copyFrom 37 = .ok (.putfield 52, 3) := by decide +kernel
theorem dX7_copyFrom_40 : decode cX7_copyFrom 40 = .ok (.aload_n 0, 1) := by decide +kernel
theorem dX7_copyFrom_41 : decode cX7_copyFrom 41 = .ok (.aload_n 1, 1) := by decide +kernel
theorem dX7_copyFrom_42 : decode cX7_copyFrom 42 = .ok (.getfield 55, 3) := by decide +kernel
theorem dX7_copyFrom_45 : decode cX7_copyFrom 45 = .ok (.putfield 55, 3) := by decide +kernel
theorem dX7_copyFrom_48 : decode cX7_copyFrom 48 = .ok (.aload_n 0, 1) := by decide +kernel
theorem dX7_copyFrom_49 : decode cX7_copyFrom 49 = .ok (.getfield 12, 3) := by decide +kernel
theorem dX7_copyFrom_52 : decode cX7_copyFrom 52 = .ok (.aload_n 1, 1) := by decide +kernel
theorem dX7_copyFrom_53 : decode cX7_copyFrom 53 = .ok (.getfield 12, 3) := by decide +kernel
theorem dX7_copyFrom_56 : decode cX7_copyFrom 56 = .ok (.invokevirtual 63, 3) := by decide +kernel
theorem dX7_copyFrom_59 : decode cX7_copyFrom 59 = .ok (.aload_n 0, 1) := by decide +kernel
theorem dX7_copyFrom_60 : decode cX7_copyFrom 60 = .ok (.getfield 21, 3) := by decide +kernel
theorem dX7_copyFrom_63 : decode cX7_copyFrom 63 = .ok (.aload_n 1, 1) := by decide +kernel
theorem dX7_copyFrom_64 : decode cX7_copyFrom 64 = .ok (.getfield 21, 3) := by decide +kernel
theorem dX7_copyFrom_67 : decode cX7_copyFrom 67 = .ok (.invokevirtual 67, 3) := by decide +kernel
theorem dX7_copyFrom_70 : decode cX7_copyFrom 70 = .ok (.iconst 0, 1) := by decide +kernel
theorem dX7_copyFrom_71 : decode cX7_copyFrom 71 = .ok (.istore_n 2, 1) := by decide +kernel
theorem dX7_copyFrom_72 : decode cX7_copyFrom 72 = .ok (.iload_n 2, 1) := by decide +kernel
theorem dX7_copyFrom_73 : decode cX7_copyFrom 73 = .ok (.bipush 8, 2) := by decide +kernel
theorem dX7_copyFrom_75 : decode cX7_copyFrom 75 = .ok (.if_icmp .ge 24, 3) := by decide +kernel
theorem dX7_copyFrom_78 : decode cX7_copyFrom 78 = .ok (.aload_n 0, 1) := by decide +kernel
theorem dX7_copyFrom_79 : decode cX7_copyFrom 79 = .ok (.getfield 27, 3) := by decide +kernel
theorem dX7_copyFrom_82 : decode cX7_copyFrom 82 = .ok (.iload_n 2, 1) := by decide +kernel
theorem dX7_copyFrom_83 : decode cX7_copyFrom 83 = .ok (.aaload, 1) := by decide +kernel
theorem dX7_copyFrom_84 : decode cX7_copyFrom 84 = .ok (.aload_n 1, 1) := by decide +kernel
theorem dX7_copyFrom_85 : decode cX7_copyFrom 85 = .ok (.getfield 27, 3) := by decide +kernel
theorem dX7_copyFrom_88 : decode cX7_copyFrom 88 = .ok (.iload_n 2, 1) := by decide +kernel
theorem dX7_copyFrom_89 : decode cX7_copyFrom 89 = .ok (.aaload, 1) := by decide +kernel
theorem dX7_copyFrom_90 : decode cX7_copyFrom 90 = .ok (.invokevirtual 70, 3) := by decide +kernel
theorem dX7_copyFrom_93 : decode cX7_copyFrom 93 = .ok (.iinc 2 1, 3) := by decide +kernel
theorem dX7_copyFrom_96 : decode cX7_copyFrom 96 = .ok (.goto (-24), 3) := by decide +kernel
theorem dX7_copyFrom_99 : decode cX7_copyFrom 99 = .ok (.aload_n 1, 1) := by decide +kernel
theorem dX7_copyFrom_100 : decode cX7_copyFrom 100 = .ok (.getfield 31, 3) := by decide +kernel
theorem dX7_copyFrom_103 : decode cX7_copyFrom 103 = .ok (.iconst 0, 1) := by decide +kernel
theorem dX7_copyFrom_104 : decode cX7_copyFrom 104 = .ok (.aload_n 0, 1) := by decide +kernel
theorem dX7_copyFrom_105 : decode cX7_copyFrom 105 = .ok (.getfield 31, 3) := by decide +kernel
theorem dX7_copyFrom_108 : decode cX7_copyFrom 108 = .ok (.iconst 0, 1) := by decide +kernel
theorem dX7_copyFrom_109 : decode cX7_copyFrom 109 = .ok (.aload_n 0, 1) := by decide +kernel
theorem dX7_copyFrom_110 : decode cX7_copyFrom 110 = .ok (.getfield 31, 3) := by decide +kernel
theorem dX7_copyFrom_113 : decode cX7_copyFrom 113 = .ok (.arraylength, 1) := by decide +kernel
theorem dX7_copyFrom_114 : decode cX7_copyFrom 114 = .ok (.invokestatic 73, 3) := by decide +kernel
theorem dX7_copyFrom_117 : decode cX7_copyFrom 117 = .ok (.return_, 1) := by decide +kernel
theorem dX7_addPerson_0 : decode cX7_addPerson 0 = .ok (.aload_n 0, 1) := by decide +kernel
theorem dX7_addPerson_1 : decode cX7_addPerson 1 = .ok (.getfield 27, 3) := by decide +kernel
theorem dX7_addPerson_4 : decode cX7_addPerson 4 = .ok (.aload_n 0, 1) := by decide +kernel
theorem dX7_addPerson_5 : decode cX7_addPerson 5 = .ok (.getfield 43, 3) := by decide +kernel
theorem dX7_addPerson_8 : decode cX7_addPerson 8 = .ok (.aaload, 1) := by decide +kernel
theorem dX7_addPerson_9 : decode cX7_addPerson 9 = .ok (.astore_n 1, 1) := by decide +kernel
theorem dX7_addPerson_10 : decode cX7_addPerson 10 = .ok (.aload_n 1, 1) := by decide +kernel
theorem dX7_addPerson_11 : decode cX7_addPerson 11 = .ok (.iconst 0, 1) := by decide +kernel
theorem dX7_addPerson_12 : decode cX7_addPerson 12 = .ok (.putfield 79, 3) := by decide +kernel
theorem dX7_addPerson_15 : decode cX7_addPerson 15 = .ok (.aload_n 1, 1) := by decide +kernel
theorem dX7_addPerson_16 : decode cX7_addPerson 16 = .ok (.iconst 0, 1) := by decide +kernel
theorem dX7_addPerson_17 : decode cX7_addPerson 17 = .ok (.putfield 82, 3) := by decide +kernel
theorem dX7_addPerson_20 : decode cX7_addPerson 20 = .ok (.aload_n 1, 1) := by decide +kernel
theorem dX7_addPerson_21 : decode cX7_addPerson 21 = .ok (.iconst 0, 1) := by decide +kernel
theorem dX7_addPerson_22 : decode cX7_addPerson 22 = .ok (.putfield 85, 3) := by decide +kernel
theorem dX7_addPerson_25 : decode cX7_addPerson 25 = .ok (.aload_n 0, 1) := by decide +kernel
theorem dX7_addPerson_26 : decode cX7_addPerson 26 = .ok (.dup, 1) := by decide +kernel
theorem dX7_addPerson_27 : decode cX7_addPerson 27 = .ok (.getfield 43, 3) := by decide +kernel
theorem dX7_addPerson_30 : decode cX7_addPerson 30 = .ok (.iconst 1, 1) := by decide +kernel
theorem dX7_addPerson_31 : decode cX7_addPerson 31 = .ok (.iadd, 1) := by decide +kernel
theorem dX7_addPerson_32 : decode cX7_addPerson 32 = .ok (.putfield 43, 3) := by decide +kernel
theorem dX7_addPerson_35 : decode cX7_addPerson 35 = .ok (.return_, 1) := by decide +kernel
theorem dX7_change_0 : decode cX7_change 0 = .ok (.aload_n 0, 1) := by decide +kernel
theorem dX7_change_1 : decode cX7_change 1 = .ok (.getfield 27, 3) := by decide +kernel
theorem dX7_change_4 : decode cX7_change 4 = .ok (.iload_n 1, 1) := by decide +kernel
theorem dX7_change_5 : decode cX7_change 5 = .ok (.aaload, 1) := by decide +kernel
theorem dX7_change_6 : decode cX7_change 6 = .ok (.aload_n 0, 1) := by decide +kernel
theorem dX7_change_7 : decode cX7_change 7 = .ok (.getfield 27, 3) := by decide +kernel
theorem dX7_change_10 : decode cX7_change 10 = .ok (.iload_n 1, 1) := by decide +kernel
theorem dX7_change_11 : decode cX7_change 11 = .ok (.aaload, 1) := by decide +kernel
theorem dX7_change_12 : decode cX7_change 12 = .ok (.getfield 88, 3) := by decide +kernel
theorem dX7_change_15 : decode cX7_change 15 = .ok (.iload_n 2, 1) := by decide +kernel
theorem dX7_change_16 : decode cX7_change 16 = .ok (.iadd, 1) := by decide +kernel
theorem dX7_change_17 : decode cX7_change 17 = .ok (.aload_n 0, 1) := by decide +kernel
theorem dX7_change_18 : decode cX7_change 18 = .ok (.getfield 39, 3) := by decide +kernel
theorem dX7_change_21 : decode cX7_change 21 = .ok (.invokevirtual 91, 3) := by decide +kernel
theorem dX7_change_24 : decode cX7_change 24 = .ok (.return_, 1) := by decide +kernel
theorem dX7_hasAfter_0 : decode cX7_hasAfter 0 = .ok (.aload_n 0, 1) := by decide +kernel
theorem dX7_hasAfter_1 : decode cX7_hasAfter 1 = .ok (.getfield 27, 3) := by decide +kernel
theorem dX7_hasAfter_4 : decode cX7_hasAfter 4 = .ok (.iload_n 1, 1) := by decide +kernel
theorem dX7_hasAfter_5 : decode cX7_hasAfter 5 = .ok (.aaload, 1) := by decide +kernel
theorem dX7_hasAfter_6 : decode cX7_hasAfter 6 = .ok (.astore_n 3, 1) := by decide +kernel
theorem dX7_hasAfter_7 : decode cX7_hasAfter 7 = .ok (.iload_n 2, 1) := by decide +kernel
theorem dX7_hasAfter_8 : decode cX7_hasAfter 8 = .ok (.ifCond .ne 10, 3) := by decide +kernel
theorem dX7_hasAfter_11 : decode cX7_hasAfter 11 = .ok (.aload_n 3, 1) := by decide +kernel
theorem dX7_hasAfter_12 : decode cX7_hasAfter 12 = .ok (.getfield 88, 3) := by decide +kernel
theorem dX7_hasAfter_15 : decode cX7_hasAfter 15 = .ok (.goto 19, 3) := by decide +kernel
theorem dX7_hasAfter_18 : decode cX7_hasAfter 18 = .ok (.aload_n 0, 1) := by decide +kernel
theorem dX7_hasAfter_19 : decode cX7_hasAfter 19 = .ok (.getfield 39, 3) := by decide +kernel
theorem dX7_hasAfter_22 : decode cX7_hasAfter 22 = .ok (.aload_n 3, 1) := by decide +kernel
theorem dX7_hasAfter_23 : decode cX7_hasAfter 23 = .ok (.getfield 88, 3) := by decide +kernel
theorem dX7_hasAfter_26 : decode cX7_hasAfter 26 = .ok (.aload_n 3, 1) := by decide +kernel
theorem dX7_hasAfter_27 : decode cX7_hasAfter 27 = .ok (.getfield 95, 3) := by decide +kernel
theorem dX7_hasAfter_30 : decode cX7_hasAfter 30 = .ok (.iadd, 1) := by decide +kernel
theorem dX7_hasAfter_31 : decode cX7_hasAfter 31 = .ok (.invokestatic 98, 3) := by decide +kernel
theorem dX7_hasAfter_34 : decode cX7_hasAfter 34 = .ok (.ireturn, 1) := by decide +kernel
theorem dX7_perform_0 : decode cX7_perform 0 = .ok (.aload_n 0, 1) := by decide +kernel
theorem dX7_perform_1 : decode cX7_perform 1 = .ok (.getfield 27, 3) := by decide +kernel
theorem dX7_perform_4 : decode cX7_perform 4 = .ok (.iload_n 1, 1) := by decide +kernel
theorem dX7_perform_5 : decode cX7_perform 5 = .ok (.aaload, 1) := by decide +kernel
theorem dX7_perform_6 : decode cX7_perform 6 = .ok (.aload_n 0, 1) := by decide +kernel
theorem dX7_perform_7 : decode cX7_perform 7 = .ok (.iload_n 1, 1) := by decide +kernel
theorem dX7_perform_8 : decode cX7_perform 8 = .ok (.iload_n 2, 1) := by decide +kernel
theorem dX7_perform_9 : decode cX7_perform 9 = .ok (.invokevirtual 104, 3) := by decide +kernel
theorem dX7_perform_12 : decode cX7_perform 12 = .ok (.aload_n 0, 1) := by decide +kernel
theorem dX7_perform_13 : decode cX7_perform 13 = .ok (.getfield 39, 3) := by decide +kernel
theorem dX7_perform_16 : decode cX7_perform 16 = .ok (.invokevirtual 91, 3) := by decide +kernel
theorem dX7_perform_19 : decode cX7_perform 19 = .ok (.aload_n 0, 1) := by decide +kernel
theorem dX7_perform_20 : decode cX7_perform 20 = .ok (.iload_n 1, 1) := by decide +kernel
theorem dX7_perform_21 : decode cX7_perform 21 = .ok (.iload_n 3, 1) := by decide +kernel
theorem dX7_perform_22 : decode cX7_perform 22 = .ok (.ineg, 1) := by decide +kernel
theorem dX7_perform_23 : decode cX7_perform 23 = .ok (.invokevirtual 107, 3) := by decide +kernel
theorem dX7_perform_26 : decode cX7_perform 26 = .ok (.iload 4, 2) := by decide +kernel
theorem dX7_perform_28 : decode cX7_perform 28 = .ok (.ifCond .le 12, 3) := by decide +kernel
theorem dX7_perform_31 : decode cX7_perform 31 = .ok (.aload_n 0, 1) := by decide +kernel
theorem dX7_perform_32 : decode cX7_perform 32 = .ok (.iload_n 1, 1) := by decide +kernel
theorem dX7_perform_33 : decode cX7_perform 33 = .ok (.iload 5, 2) := by decide +kernel
theorem dX7_perform_35 : decode cX7_perform 35 = .ok (.iload 4, 2) := by decide +kernel
theorem dX7_perform_37 : decode cX7_perform 37 = .ok (.invokevirtual 110, 3) := by decide +kernel
theorem dX7_perform_40 : decode cX7_perform 40 = .ok (.return_, 1) := by decide +kernel
theorem dX7_hand_0 : decode cX7_hand 0 = .ok (.aload_n 0, 1) := by decide +kernel
theorem dX7_hand_1 : decode cX7_hand 1 = .ok (.getfield 27, 3) := by decide +kernel
theorem dX7_hand_4 : decode cX7_hand 4 = .ok (.iload_n 1, 1) := by decide +kernel
theorem dX7_hand_5 : decode cX7_hand 5 = .ok (.aaload, 1) := by decide +kernel
theorem dX7_hand_6 : decode cX7_hand 6 = .ok (.aload_n 0, 1) := by decide +kernel
theorem dX7_hand_7 : decode cX7_hand 7 = .ok (.getfield 27, 3) := by decide +kernel
theorem dX7_hand_10 : decode cX7_hand 10 = .ok (.iload_n 1, 1) := by decide +kernel
theorem dX7_hand_11 : decode cX7_hand 11 = .ok (.aaload, 1) := by decide +kernel
theorem dX7_hand_12 : decode cX7_hand 12 = .ok (.getfield 88, 3) := by decide +kernel
theorem dX7_hand_15 : decode cX7_hand 15 = .ok (.iload_n 3, 1) := by decide +kernel
theorem dX7_hand_16 : decode cX7_hand 16 = .ok (.isub, 1) := by decide +kernel
theorem dX7_hand_17 : decode cX7_hand 17 = .ok (.aload_n 0, 1) := by decide +kernel
theorem dX7_hand_18 : decode cX7_hand 18 = .ok (.getfield 39, 3) := by decide +kernel
theorem dX7_hand_21 : decode cX7_hand 21 = .ok (.invokevirtual 91, 3) := by decide +kernel
theorem dX7_hand_24 : decode cX7_hand 24 = .ok (.aload_n 0, 1) := by decide +kernel
theorem dX7_hand_25 : decode cX7_hand 25 = .ok (.getfield 27, 3) := by decide +kernel
theorem dX7_hand_28 : decode cX7_hand 28 = .ok (.iload_n 2, 1) := by decide +kernel
theorem dX7_hand_29 : decode cX7_hand 29 = .ok (.aaload, 1) := by decide +kernel
theorem dX7_hand_30 : decode cX7_hand 30 = .ok (.aload_n 0, 1) := by decide +kernel
theorem dX7_hand_31 : decode cX7_hand 31 = .ok (.getfield 27, 3) := by decide +kernel
theorem dX7_hand_34 : decode cX7_hand 34 = .ok (.iload_n 2, 1) := by decide +kernel
theorem dX7_hand_35 : decode cX7_hand 35 = .ok (.aaload, 1) := by decide +kernel
theorem dX7_hand_36 : decode cX7_hand 36 = .ok (.getfield 88, 3) := by decide +kernel
theorem dX7_hand_39 : decode cX7_hand 39 = .ok (.iload_n 3, 1) := by decide +kernel
theorem dX7_hand_40 : decode cX7_hand 40 = .ok (.iadd, 1) := by decide +kernel
theorem dX7_hand_41 : decode cX7_hand 41 = .ok (.aload_n 0, 1) := by decide +kernel
theorem dX7_hand_42 : decode cX7_hand 42 = .ok (.getfield 39, 3) := by decide +kernel
theorem dX7_hand_45 : decode cX7_hand 45 = .ok (.invokevirtual 91, 3) := by decide +kernel
theorem dX7_hand_48 : decode cX7_hand 48 = .ok (.return_, 1) := by decide +kernel
theorem dX7_seenBy_0 : decode cX7_seenBy 0 = .ok (.aload_n 0, 1) := by decide +kernel
theorem dX7_seenBy_1 : decode cX7_seenBy 1 = .ok (.getfield 27, 3) := by decide +kernel
theorem dX7_seenBy_4 : decode cX7_seenBy 4 = .ok (.iload_n 2, 1) := by decide +kernel
theorem dX7_seenBy_5 : decode cX7_seenBy 5 = .ok (.aaload, 1) := by decide +kernel
theorem dX7_seenBy_6 : decode cX7_seenBy 6 = .ok (.invokevirtual 114, 3) := by decide +kernel
theorem dX7_seenBy_9 : decode cX7_seenBy 9 = .ok (.istore_n 3, 1) := by decide +kernel
theorem dX7_seenBy_10 : decode cX7_seenBy 10 = .ok (.aload_n 0, 1) := by decide +kernel
theorem dX7_seenBy_11 : decode cX7_seenBy 11 = .ok (.getfield 31, 3) := by decide +kernel
theorem dX7_seenBy_14 : decode cX7_seenBy 14 = .ok (.iload_n 1, 1) := by decide +kernel
theorem dX7_seenBy_15 : decode cX7_seenBy 15 = .ok (.bipush 8, 2) := by decide +kernel
theorem dX7_seenBy_17 : decode cX7_seenBy 17 = .ok (.imul, 1) := by decide +kernel
theorem dX7_seenBy_18 : decode cX7_seenBy 18 = .ok (.iload_n 2, 1) := by decide +kernel
theorem dX7_seenBy_19 : decode cX7_seenBy 19 = .ok (.iadd, 1) := by decide +kernel
theorem dX7_seenBy_20 : decode cX7_seenBy 20 = .ok (.iaload, 1) := by decide +kernel
theorem dX7_seenBy_21 : decode cX7_seenBy 21 = .ok (.istore 4, 2) := by decide +kernel
theorem dX7_seenBy_23 : decode cX7_seenBy 23 = .ok (.iload 4, 2) := by decide +kernel
theorem dX7_seenBy_25 : decode cX7_seenBy 25 = .ok (.iconst 1, 1) := by decide +kernel
theorem dX7_seenBy_26 : decode cX7_seenBy 26 = .ok (.if_icmp .le 12, 3) := by decide +kernel
theorem dX7_seenBy_29 : decode cX7_seenBy 29 = .ok (.iload_n 3, 1) := by decide +kernel
theorem dX7_seenBy_30 : decode cX7_seenBy 30 = .ok (.iload_n 3, 1) := by decide +kernel
theorem dX7_seenBy_31 : decode cX7_seenBy 31 = .ok (.iload 4, 2) := by decide +kernel
theorem dX7_seenBy_33 : decode cX7_seenBy 33 = .ok (.irem, 1) := by decide +kernel
theorem dX7_seenBy_34 : decode cX7_seenBy 34 = .ok (.isub, 1) := by decide +kernel
theorem dX7_seenBy_35 : decode cX7_seenBy 35 = .ok (.goto 4, 3) := by decide +kernel
theorem dX7_seenBy_38 : decode cX7_seenBy 38 = .ok (.iload_n 3, 1) := by decide +kernel
theorem dX7_seenBy_39 : decode cX7_seenBy 39 = .ok (.ireturn, 1) := by decide +kernel
theorem dX7_topFor_0 : decode cX7_topFor 0 = .ok (.iconst 0, 1) := by decide +kernel
theorem dX7_topFor_1 : decode cX7_topFor 1 = .ok (.istore_n 2, 1) := by decide +kernel
theorem dX7_topFor_2 : decode cX7_topFor 2 = .ok (.iconst 0, 1) := by decide +kernel
theorem dX7_topFor_3 : decode cX7_topFor 3 = .ok (.istore_n 3, 1) := by decide +kernel
theorem dX7_topFor_4 : decode cX7_topFor 4 = .ok (.iload_n 3, 1) := by decide +kernel
theorem dX7_topFor_5 : decode cX7_topFor 5 = .ok (.aload_n 0, 1) := by decide +kernel
theorem dX7_topFor_6 : decode cX7_topFor 6 = .ok (.getfield 43, 3) := by decide +kernel
theorem dX7_topFor_9 : decode cX7_topFor 9 = .ok (.if_icmp .ge 25, 3) := by decide +kernel
theorem dX7_topFor_12 : decode cX7_topFor 12 = .ok (.iload_n 3, 1) := by decide +kernel
theorem dX7_topFor_13 : decode cX7_topFor 13 = .ok (.iload_n 1, 1) := by decide +kernel
theorem dX7_topFor_14 : decode cX7_topFor 14 = .ok (.if_icmp .eq 14, 3) := by decide +kernel
theorem dX7_topFor_17 : decode cX7_topFor 17 = .ok (.iload_n 2, 1) := by decide +kernel
theorem dX7_topFor_18 : decode cX7_topFor 18 = .ok (.aload_n 0, 1) := by decide +kernel
theorem dX7_topFor_19 : decode cX7_topFor 19 = .ok (.iload_n 1, 1) := by decide +kernel
theorem dX7_topFor_20 : decode cX7_topFor 20 = .ok (.iload_n 3, 1) := by decide +kernel
theorem dX7_topFor_21 : decode cX7_topFor 21 = .ok (.invokevirtual 118, 3) := by decide +kernel
theorem dX7_topFor_24 : decode cX7_topFor 24 = .ok (.invokestatic 121, 3) := by decide +kernel
theorem dX7_topFor_27 : decode cX7_topFor 27 = .ok (.istore_n 2, 1) := by decide +kernel
theorem dX7_topFor_28 : decode cX7_topFor 28 = .ok (.iinc 3 1, 3) := by decide +kernel
theorem dX7_topFor_31 : decode cX7_topFor 31 = .ok (.goto (-27), 3) := by decide +kernel
theorem dX7_topFor_34 : decode cX7_topFor 34 = .ok (.iload_n 2, 1) := by decide +kernel
theorem dX7_topFor_35 : decode cX7_topFor 35 = .ok (.ireturn, 1) := by decide +kernel
theorem dX7_spreadOut_0 : decode cX7_spreadOut 0 = .ok (.iconst 0, 1) := by decide +kernel
theorem dX7_spreadOut_1 : decode cX7_spreadOut 1 = .ok (.istore_n 1, 1) := by decide +kernel
theorem dX7_spreadOut_2 : decode cX7_spreadOut 2 = .ok (.iconst 0, 1) := by decide +kernel
theorem dX7_spreadOut_3 : decode cX7_spreadOut 3 = .ok (.istore_n 2, 1) := by decide +kernel
theorem dX7_spreadOut_4 : decode cX7_spreadOut 4 = .ok (.iload_n 2, 1) := by decide +kernel
theorem dX7_spreadOut_5 : decode cX7_spreadOut 5 = .ok (.aload_n 0, 1) := by decide +kernel
theorem dX7_spreadOut_6 : decode cX7_spreadOut 6 = .ok (.getfield 43, 3) := by decide +kernel
theorem dX7_spreadOut_9 : decode cX7_spreadOut 9 = .ok (.if_icmp .ge 47, 3) := by decide +kernel
theorem dX7_spreadOut_12 : decode cX7_spreadOut 12 = .ok (.iconst 0, 1) := by decide +kernel
theorem dX7_spreadOut_13 : decode cX7_spreadOut 13 = .ok (.istore_n 3, 1) := by decide +kernel
theorem dX7_spreadOut_14 : decode cX7_spreadOut 14 = .ok (.iload_n 3, 1) := by decide +kernel
theorem dX7_spreadOut_15 : decode cX7_spreadOut 15 = .ok (.iload_n 2, 1) := by decide +kernel
theorem dX7_spreadOut_16 : decode cX7_spreadOut 16 = .ok (.if_icmp .ge 34, 3) := by decide +kernel
theorem dX7_spreadOut_19 : decode cX7_spreadOut 19 = .ok (.iload_n 1, 1) := by decide +kernel
theorem dX7_spreadOut_20 : decode cX7_spreadOut 20 = .ok (.aload_n 0, 1) := by decide +kernel
theorem dX7_spreadOut_21 : decode cX7_spreadOut 21 = .ok (.getfield 27, 3) := by decide +kernel
theorem dX7_spreadOut_24 : decode cX7_spreadOut 24 = .ok (.iload_n 2, 1) := by decide +kernel
theorem dX7_spreadOut_25 : decode cX7_spreadOut 25 = .ok (.aaload, 1) := by decide +kernel
theorem dX7_spreadOut_26 : decode cX7_spreadOut 26 = .ok (.getfield 88, 3) := by decide +kernel
theorem dX7_spreadOut_29 : decode cX7_spreadOut 29 = .ok (.aload_n 0, 1) := by decide +kernel
theorem dX7_spreadOut_30 : decode cX7_spreadOut 30 = .ok (.getfield 27, 3) := by decide +kernel
theorem dX7_spreadOut_33 : decode cX7_spreadOut 33 = .ok (.iload_n 3, 1) := by decide +kernel
theorem dX7_spreadOut_34 : decode cX7_spreadOut 34 = .ok (.aaload, 1) := by decide +kernel
theorem dX7_spreadOut_35 : decode cX7_spreadOut 35 = .ok (.getfield 88, 3) := by decide +kernel
theorem dX7_spreadOut_38 : decode cX7_spreadOut 38 = .ok (.isub, 1) := by decide +kernel
theorem dX7_spreadOut_39 : decode cX7_spreadOut 39 = .ok (.invokestatic 124, 3) := by decide +kernel
theorem dX7_spreadOut_42 : decode cX7_spreadOut 42 = .ok (.iadd, 1) := by decide +kernel
theorem dX7_spreadOut_43 : decode cX7_spreadOut 43 = .ok (.istore_n 1, 1) := by decide +kernel
theorem dX7_spreadOut_44 : decode cX7_spreadOut 44 = .ok (.iinc 3 1, 3) := by decide +kernel
theorem dX7_spreadOut_47 : decode cX7_spreadOut 47 = .ok (.goto (-33), 3) := by decide +kernel
theorem dX7_spreadOut_50 : decode cX7_spreadOut 50 = .ok (.iinc 2 1, 3) := by decide +kernel
theorem dX7_spreadOut_53 : decode cX7_spreadOut 53 = .ok (.goto (-49), 3) := by decide +kernel
theorem dX7_spreadOut_56 : decode cX7_spreadOut 56 = .ok (.iload_n 1, 1) := by decide +kernel
theorem dX7_spreadOut_57 : decode cX7_spreadOut 57 = .ok (.ireturn, 1) := by decide +kernel
theorem dX7_goodOfAll_0 : decode cX7_goodOfAll 0 = .ok (.iconst 0, 1) := by decide +kernel
theorem dX7_goodOfAll_1 : decode cX7_goodOfAll 1 = .ok (.istore_n 1, 1) := by decide +kernel
theorem dX7_goodOfAll_2 : decode cX7_goodOfAll 2 = .ok (.iconst 0, 1) := by decide +kernel
theorem dX7_goodOfAll_3 : decode cX7_goodOfAll 3 = .ok (.istore_n 2, 1) := by decide +kernel
theorem dX7_goodOfAll_4 : decode cX7_goodOfAll 4 = .ok (.iload_n 2, 1) := by decide +kernel
theorem dX7_goodOfAll_5 : decode cX7_goodOfAll 5 = .ok (.aload_n 0, 1) := by decide +kernel
theorem dX7_goodOfAll_6 : decode cX7_goodOfAll 6 = .ok (.getfield 43, 3) := by decide +kernel
theorem dX7_goodOfAll_9 : decode cX7_goodOfAll 9 = .ok (.if_icmp .ge 21, 3) := by decide +kernel
theorem dX7_goodOfAll_12 : decode cX7_goodOfAll 12 = .ok (.iload_n 1, 1) := by decide +kernel
theorem dX7_goodOfAll_13 : decode cX7_goodOfAll 13 = .ok (.aload_n 0, 1) := by decide +kernel
theorem dX7_goodOfAll_14 : decode cX7_goodOfAll 14 = .ok (.getfield 27, 3) := by decide +kernel
theorem dX7_goodOfAll_17 : decode cX7_goodOfAll 17 = .ok (.iload_n 2, 1) := by decide +kernel
theorem dX7_goodOfAll_18 : decode cX7_goodOfAll 18 = .ok (.aaload, 1) := by decide +kernel
theorem dX7_goodOfAll_19 : decode cX7_goodOfAll 19 = .ok (.getfield 82, 3) := by decide +kernel
theorem dX7_goodOfAll_22 : decode cX7_goodOfAll 22 = .ok (.iadd, 1) := by decide +kernel
theorem dX7_goodOfAll_23 : decode cX7_goodOfAll 23 = .ok (.istore_n 1, 1) := by decide +kernel
theorem dX7_goodOfAll_24 : decode cX7_goodOfAll 24 = .ok (.iinc 2 1, 3) := by decide +kernel
theorem dX7_goodOfAll_27 : decode cX7_goodOfAll 27 = .ok (.goto (-23), 3) := by decide +kernel
theorem dX7_goodOfAll_30 : decode cX7_goodOfAll 30 = .ok (.iload_n 1, 1) := by decide +kernel
theorem dX7_goodOfAll_31 : decode cX7_goodOfAll 31 = .ok (.ireturn, 1) := by decide +kernel
theorem dX7_strikeOn_0 : decode cX7_strikeOn 0 = .ok (.aload_n 1, 1) := by decide +kernel
theorem dX7_strikeOn_1 : decode cX7_strikeOn 1 = .ok (.aload_n 0, 1) := by decide +kernel
theorem dX7_strikeOn_2 : decode cX7_strikeOn 2 = .ok (.invokevirtual 128, 3) := by decide +kernel
theorem dX7_strikeOn_5 : decode cX7_strikeOn 5 = .ok (.aload_n 1, 1) := by decide +kernel
theorem dX7_strikeOn_6 : decode cX7_strikeOn 6 = .ok (.aload_n 0, 1) := by decide +kernel
theorem dX7_strikeOn_7 : decode cX7_strikeOn 7 = .ok (.getfield 12, 3) := by decide +kernel
theorem dX7_strikeOn_10 : decode cX7_strikeOn 10 = .ok (.invokevirtual 134, 3) := by decide +kernel
theorem dX7_strikeOn_13 : decode cX7_strikeOn 13 = .ok (.iconst 0, 1) := by decide +kernel
theorem dX7_strikeOn_14 : decode cX7_strikeOn 14 = .ok (.istore_n 2, 1) := by decide +kernel
theorem dX7_strikeOn_15 : decode cX7_strikeOn 15 = .ok (.iload_n 2, 1) := by decide +kernel
theorem dX7_strikeOn_16 : decode cX7_strikeOn 16 = .ok (.aload_n 0, 1) := by decide +kernel
theorem dX7_strikeOn_17 : decode cX7_strikeOn 17 = .ok (.getfield 43, 3) := by decide +kernel
