theorem dX10_number_36 : decode cX10_number 36 = .ok (.invokestatic 98, 3) := by decide +kernel
theorem dX10_number_39 : decode cX10_number 39 = .ok (.ifCond .ne 8, 3) := by decide +kernel
theorem dX10_number_42 : decode cX10_number 42 = .ok (.aload_n 0, 1) := by decide +kernel
theorem dX10_number_43 : decode cX10_number 43 = .ok (.iconst 2, 1) := by decide +kernel
theorem dX10_number_44 : decode cX10_number 44 = .ok (.invokevirtual 174, 3) := by decide +kernel
theorem dX10_number_47 : decode cX10_number 47 = .ok (.aload_n 0, 1) := by decide +kernel
theorem dX10_number_48 : decode cX10_number 48 = .ok (.invokevirtual 150, 3) := by decide +kernel
theorem dX10_number_51 : decode cX10_number 51 = .ok (.ifCond .ne 5, 3) := by decide +kernel
theorem dX10_number_54 : decode cX10_number 54 = .ok (.iconst 0, 1) := by decide +kernel
theorem dX10_number_55 : decode cX10_number 55 = .ok (.ireturn, 1) := by decide +kernel
theorem dX10_number_56 : decode cX10_number 56 = .ok (.aload_n 0, 1) := by decide +kernel
theorem dX10_number_57 : decode cX10_number 57 = .ok (.getfield 137, 3) := by decide +kernel
theorem dX10_number_60 : decode cX10_number 60 = .ok (.istore_n 3, 1) := by decide +kernel
theorem dX10_number_61 : decode cX10_number 61 = .ok (.aload_n 0, 1) := by decide +kernel
theorem dX10_number_62 : decode cX10_number 62 = .ok (.invokevirtual 168, 3) := by decide +kernel
theorem dX10_number_65 : decode cX10_number 65 = .ok (.iload_n 3, 1) := by decide +kernel
theorem dX10_number_66 : decode cX10_number 66 = .ok (.ireturn, 1) := by decide +kernel
theorem dX10_told_0 : decode cX10_told 0 = .ok (.aload_n 0, 1) := by decide +kernel
theorem dX10_told_1 : decode cX10_told 1 = .ok (.aload_n 1, 1) := by decide +kernel
theorem dX10_told_2 : decode cX10_told 2 = .ok (.invokevirtual 178, 3) := by decide +kernel
theorem dX10_told_5 : decode cX10_told 5 = .ok (.aload_n 0, 1) := by decide +kernel
theorem dX10_told_6 : decode cX10_told 6 = .ok (.iload_n 2, 1) := by decide +kernel
theorem dX10_told_7 : decode cX10_told 7 = .ok (.iload_n 3, 1) := by decide +kernel
theorem dX10_told_8 : decode cX10_told 8 = .ok (.invokevirtual 182, 3) := by decide +kernel
theorem dX10_told_11 : decode cX10_told 11 = .ok (.ireturn, 1) := by decide +kernel
theorem dX10_fault_0 : decode cX10_fault 0 = .ok (.iload_n 1, 1) := by decide +kernel
theorem dX10_fault_1 : decode cX10_fault 1 = .ok (.ifCond .ne 10, 3) := by decide +kernel
theorem dX10_fault_4 : decode cX10_fault 4 = .ok (.aload_n 0, 1) := by decide +kernel
theorem dX10_fault_5 : decode cX10_fault 5 = .ok (.getfield 147, 3) := by decide +kernel
theorem dX10_fault_8 : decode cX10_fault 8 = .ok (.goto 16, 3) := by decide +kernel
theorem dX10_fault_11 : decode cX10_fault 11 = .ok (.iload_n 1, 1) := by decide +kernel
theorem dX10_fault_12 : decode cX10_fault 12 = .ok (.iconst 1, 1) := by decide +kernel
theorem dX10_fault_13 : decode cX10_fault 13 = .ok (.if_icmp .ne 10, 3) := by decide +kernel
theorem dX10_fault_16 : decode cX10_fault 16 = .ok (.aload_n 0, 1) := by decide +kernel
theorem dX10_fault_17 : decode cX10_fault 17 = .ok (.getfield 35, 3) := by decide +kernel
theorem dX10_fault_20 : decode cX10_fault 20 = .ok (.goto 4, 3) := by decide +kernel
theorem dX10_fault_23 : decode cX10_fault 23 = .ok (.iconst (-1), 1) := by decide +kernel
theorem dX10_fault_24 : decode cX10_fault 24 = .ok (.ireturn, 1) := by decide +kernel
theorem dX10_readGoes_0 : decode cX10_readGoes 0 = .ok (.aload_n 0, 1) := by decide +kernel
theorem dX10_readGoes_1 : decode cX10_readGoes 1 = .ok (.ldc 185, 2) := by decide +kernel
theorem dX10_readGoes_3 : decode cX10_readGoes 3 = .ok (.invokevirtual 171, 3) := by decide +kernel
theorem dX10_readGoes_6 : decode cX10_readGoes 6 = .ok (.ifCond .eq 5, 3) := by decide +kernel
theorem dX10_readGoes_9 : decode cX10_readGoes 9 = .ok (.iconst 0, 1) := by decide +kernel
theorem dX10_readGoes_10 : decode cX10_readGoes 10 = .ok (.ireturn, 1) := by decide +kernel
theorem dX10_readGoes_11 : decode cX10_readGoes 11 = .ok (.aload_n 0, 1) := by decide +kernel
theorem dX10_readGoes_12 : decode cX10_readGoes 12 = .ok (.ldc 187, 2) := by decide +kernel
theorem dX10_readGoes_14 : decode cX10_readGoes 14 = .ok (.invokevirtual 171, 3) := by decide +kernel
theorem dX10_readGoes_17 : decode cX10_readGoes 17 = .ok (.ifCond .eq 5, 3) := by decide +kernel
theorem dX10_readGoes_20 : decode cX10_readGoes 20 = .ok (.iconst 1, 1) := by decide +kernel
theorem dX10_readGoes_21 : decode cX10_readGoes 21 = .ok (.ireturn, 1) := by decide +kernel
theorem dX10_readGoes_22 : decode cX10_readGoes 22 = .ok (.aload_n 0, 1) := by decide +kernel
theorem dX10_readGoes_23 : decode cX10_readGoes 23 = .ok (.ldc 189, 2) := by decide +kernel
theorem dX10_readGoes_25 : decode cX10_readGoes 25 = .ok (.invokevirtual 178, 3) := by decide +kernel
theorem dX10_readGoes_28 : decode cX10_readGoes 28 = .ok (.iconst 2, 1) := by decide +kernel
theorem dX10_readGoes_29 : decode cX10_readGoes 29 = .ok (.ireturn, 1) := by decide +kernel
theorem dX10_readLaw_0 : decode cX10_readLaw 0 = .ok (.aload_n 0, 1) := by decide +kernel
theorem dX10_readLaw_1 : decode cX10_readLaw 1 = .ok (.getfield 38, 3) := by decide +kernel
theorem dX10_readLaw_4 : decode cX10_readLaw 4 = .ok (.bipush 12, 2) := by decide +kernel
theorem dX10_readLaw_6 : decode cX10_readLaw 6 = .ok (.dup2, 1) := by decide +kernel
theorem dX10_readLaw_7 : decode cX10_readLaw 7 = .ok (.iaload, 1) := by decide +kernel
theorem dX10_readLaw_8 : decode cX10_readLaw 8 = .ok (.iconst 1, 1) := by decide +kernel
theorem dX10_readLaw_9 : decode cX10_readLaw 9 = .ok (.ior, 1) := by decide +kernel
theorem dX10_readLaw_10 : decode cX10_readLaw 10 = .ok (.iastore, 1) := by decide +kernel
theorem dX10_readLaw_11 : decode cX10_readLaw 11 = .ok (.aload_n 0, 1) := by decide +kernel
theorem dX10_readLaw_12 : decode cX10_readLaw 12 = .ok (.getfield 38, 3) := by decide +kernel
theorem dX10_readLaw_15 : decode cX10_readLaw 15 = .ok (.iconst 2, 1) := by decide +kernel
theorem dX10_readLaw_16 : decode cX10_readLaw 16 = .ok (.aload_n 0, 1) := by decide +kernel
theorem dX10_readLaw_17 : decode cX10_readLaw 17 = .ok (.ldc 191, 2) := by decide +kernel
theorem dX10_readLaw_19 : decode cX10_readLaw 19 = .ok (.iconst 0, 1) := by decide +kernel
theorem dX10_readLaw_20 : decode cX10_readLaw 20 = .ok (.bipush 30, 2) := by decide +kernel
theorem dX10_readLaw_22 : decode cX10_readLaw 22 = .ok (.invokevirtual 193, 3) := by decide +kernel
theorem dX10_readLaw_25 : decode cX10_readLaw 25 = .ok (.iastore, 1) := by decide +kernel
theorem dX10_readLaw_26 : decode cX10_readLaw 26 = .ok (.aload_n 0, 1) := by decide +kernel
theorem dX10_readLaw_27 : decode cX10_readLaw 27 = .ok (.getfield 38, 3) := by decide +kernel
theorem dX10_readLaw_30 : decode cX10_readLaw 30 = .ok (.iconst 3, 1) := by decide +kernel
theorem dX10_readLaw_31 : decode cX10_readLaw 31 = .ok (.aload_n 0, 1) := by decide +kernel
theorem dX10_readLaw_32 : decode cX10_readLaw 32 = .ok (.ldc 197, 2) := by decide +kernel
theorem dX10_readLaw_34 : decode cX10_readLaw 34 = .ok (.iconst 2, 1) := by decide +kernel
theorem dX10_readLaw_35 : decode cX10_readLaw 35 = .ok (.iconst 4, 1) := by decide +kernel
theorem dX10_readLaw_36 : decode cX10_readLaw 36 = .ok (.invokevirtual 193, 3) := by decide +kernel
theorem dX10_readLaw_39 : decode cX10_readLaw 39 = .ok (.iastore, 1) := by decide +kernel
theorem dX10_readLaw_40 : decode cX10_readLaw 40 = .ok (.aload_n 0, 1) := by decide +kernel
theorem dX10_readLaw_41 : decode cX10_readLaw 41 = .ok (.ldc 199, 2) := by decide +kernel
theorem dX10_readLaw_43 : decode cX10_readLaw 43 = .ok (.invokevirtual 178, 3) := by decide +kernel
theorem dX10_readLaw_46 : decode cX10_readLaw 46 = .ok (.aload_n 0, 1) := by decide +kernel
theorem dX10_readLaw_47 : decode cX10_readLaw 47 = .ok (.getfield 38, 3) := by decide +kernel
theorem dX10_readLaw_50 : decode cX10_readLaw 50 = .ok (.iconst 4, 1) := by decide +kernel
theorem dX10_readLaw_51 : decode cX10_readLaw 51 = .ok (.aload_n 0, 1) := by decide +kernel
theorem dX10_readLaw_52 : decode cX10_readLaw 52 = .ok (.invokevirtual 201, 3) := by decide +kernel
theorem dX10_readLaw_55 : decode cX10_readLaw 55 = .ok (.iastore, 1) := by decide +kernel
theorem dX10_readLaw_56 : decode cX10_readLaw 56 = .ok (.aload_n 0, 1) := by decide +kernel
theorem dX10_readLaw_57 : decode cX10_readLaw 57 = .ok (.getfield 38, 3) := by decide +kernel
theorem dX10_readLaw_60 : decode cX10_readLaw 60 = .ok (.iconst 5, 1) := by decide +kernel
theorem dX10_readLaw_61 : decode cX10_readLaw 61 = .ok (.aload_n 0, 1) := by decide +kernel
theorem dX10_readLaw_62 : decode cX10_readLaw 62 = .ok (.ldc 204, 2) := by decide +kernel
theorem dX10_readLaw_64 : decode cX10_readLaw 64 = .ok (.invokevirtual 171, 3) := by decide +kernel
theorem dX10_readLaw_67 : decode cX10_readLaw 67 = .ok (.ifCond .eq 7, 3) := by decide +kernel
theorem dX10_readLaw_70 : decode cX10_readLaw 70 = .ok (.iconst 1, 1) := by decide +kernel
theorem dX10_readLaw_71 : decode cX10_readLaw 71 = .ok (.goto 4, 3) := by decide +kernel
theorem dX10_readLaw_74 : decode cX10_readLaw 74 = .ok (.iconst 0, 1) := by decide +kernel
theorem dX10_readLaw_75 : decode cX10_readLaw 75 = .ok (.iastore, 1) := by decide +kernel
theorem dX10_readLaw_76 : decode cX10_readLaw 76 = .ok (.return_, 1) := by decide +kernel
theorem dX10_readWay_0 : decode cX10_readWay 0 = .ok (.aload_n 0, 1) := by decide +kernel
theorem dX10_readWay_1 : decode cX10_readWay 1 = .ok (.ldc 206, 2) := by decide +kernel
theorem dX10_readWay_3 : decode cX10_readWay 3 = .ok (.invokevirtual 171, 3) := by decide +kernel
theorem dX10_readWay_6 : decode cX10_readWay 6 = .ok (.ifCond .eq 7, 3) := by decide +kernel
theorem dX10_readWay_9 : decode cX10_readWay 9 = .ok (.iconst 0, 1) := by decide +kernel
theorem dX10_readWay_10 : decode cX10_readWay 10 = .ok (.goto 56, 3) := by decide +kernel
theorem dX10_readWay_13 : decode cX10_readWay 13 = .ok (.aload_n 0, 1) := by decide +kernel
theorem dX10_readWay_14 : decode cX10_readWay 14 = .ok (.ldc 208, 2) := by decide +kernel
theorem dX10_readWay_16 : decode cX10_readWay 16 = .ok (.invokevirtual 171, 3) := by decide +kernel
theorem dX10_readWay_19 : decode cX10_readWay 19 = .ok (.ifCond .eq 7, 3) := by decide +kernel
theorem dX10_readWay_22 : decode cX10_readWay 22 = .ok (.iconst 1, 1) := by decide +kernel
theorem dX10_readWay_23 : decode cX10_readWay 23 = .ok (.goto 43, 3) := by decide +kernel
theorem dX10_readWay_26 : decode cX10_readWay 26 = .ok (.aload_n 0, 1) := by decide +kernel
theorem dX10_readWay_27 : decode cX10_readWay 27 = .ok (.ldc 210, 2) := by decide +kernel
theorem dX10_readWay_29 : decode cX10_readWay 29 = .ok (.invokevirtual 171, 3) := by decide +kernel
theorem dX10_readWay_32 : decode cX10_readWay 32 = .ok (.ifCond .eq 7, 3) := by decide +kernel
theorem dX10_readWay_35 : decode cX10_readWay 35 = .ok (.iconst 2, 1) := by decide +kernel
theorem dX10_readWay_36 : decode cX10_readWay 36 = .ok (.goto 30, 3) := by decide +kernel
theorem dX10_readWay_39 : decode cX10_readWay 39 = .ok (.aload_n 0, 1) := by decide +kernel
theorem dX10_readWay_40 : decode cX10_readWay 40 = .ok (.ldc 212, 2) := by decide +kernel
theorem dX10_readWay_42 : decode cX10_readWay 42 = .ok (.invokevirtual 171, 3) := by decide +kernel
theorem dX10_readWay_45 : decode cX10_readWay 45 = .ok (.ifCond .eq 7, 3) := by decide +kernel
theorem dX10_readWay_48 : decode cX10_readWay 48 = .ok (.iconst 3, 1) := by decide +kernel
theorem dX10_readWay_49 : decode cX10_readWay 49 = .ok (.goto 17, 3) := by decide +kernel
theorem dX10_readWay_52 : decode cX10_readWay 52 = .ok (.aload_n 0, 1) := by decide +kernel
theorem dX10_readWay_53 : decode cX10_readWay 53 = .ok (.ldc 214, 2) := by decide +kernel
theorem dX10_readWay_55 : decode cX10_readWay 55 = .ok (.invokevirtual 171, 3) := by decide +kernel
theorem dX10_readWay_58 : decode cX10_readWay 58 = .ok (.ifCond .eq 7, 3) := by decide +kernel
theorem dX10_readWay_61 : decode cX10_readWay 61 = .ok (.iconst 4, 1) := by decide +kernel
theorem dX10_readWay_62 : decode cX10_readWay 62 = .ok (.goto 4, 3) := by decide +kernel
theorem dX10_readWay_65 : decode cX10_readWay 65 = .ok (.iconst 5, 1) := by decide +kernel
theorem dX10_readWay_66 : decode cX10_readWay 66 = .ok (.istore_n 2, 1) := by decide +kernel
theorem dX10_readWay_67 : decode cX10_readWay 67 = .ok (.iload_n 2, 1) := by decide +kernel
theorem dX10_readWay_68 : decode cX10_readWay 68 = .ok (.iconst 5, 1) := by decide +kernel
theorem dX10_readWay_69 : decode cX10_readWay 69 = .ok (.if_icmp .ne 9, 3) := by decide +kernel
theorem dX10_readWay_72 : decode cX10_readWay 72 = .ok (.aload_n 0, 1) := by decide +kernel
theorem dX10_readWay_73 : decode cX10_readWay 73 = .ok (.ldc 216, 2) := by decide +kernel
theorem dX10_readWay_75 : decode cX10_readWay 75 = .ok (.invokevirtual 178, 3) := by decide +kernel
theorem dX10_readWay_78 : decode cX10_readWay 78 = .ok (.aload_n 0, 1) := by decide +kernel
theorem dX10_readWay_79 : decode cX10_readWay 79 = .ok (.getfield 38, 3) := by decide +kernel
theorem dX10_readWay_82 : decode cX10_readWay 82 = .ok (.iload_n 1, 1) := by decide +kernel
theorem dX10_readWay_83 : decode cX10_readWay 83 = .ok (.iconst 2, 1) := by decide +kernel
theorem dX10_readWay_84 : decode cX10_readWay 84 = .ok (.iadd, 1) := by decide +kernel
theorem dX10_readWay_85 : decode cX10_readWay 85 = .ok (.iload_n 2, 1) := by decide +kernel
theorem dX10_readWay_86 : decode cX10_readWay 86 = .ok (.iastore, 1) := by decide +kernel
theorem dX10_readWay_87 : decode cX10_readWay 87 = .ok (.iload_n 2, 1) := by decide +kernel
theorem dX10_readWay_88 : decode cX10_readWay 88 = .ok (.iconst 2, 1) := by decide +kernel
theorem dX10_readWay_89 : decode cX10_readWay 89 = .ok (.if_icmp .ne 18, 3) := by decide +kernel
theorem dX10_readWay_92 : decode cX10_readWay 92 = .ok (.aload_n 0, 1) := by decide +kernel
theorem dX10_readWay_93 : decode cX10_readWay 93 = .ok (.getfield 38, 3) := by decide +kernel
theorem dX10_readWay_96 : decode cX10_readWay 96 = .ok (.iload_n 1, 1) := by decide +kernel
theorem dX10_readWay_97 : decode cX10_readWay 97 = .ok (.iconst 3, 1) := by decide +kernel
theorem dX10_readWay_98 : decode cX10_readWay 98 = .ok (.iadd, 1) := by decide +kernel
theorem dX10_readWay_99 : decode cX10_readWay 99 = .ok (.aload_n 0, 1) := by decide +kernel
theorem dX10_readWay_100 : decode cX10_readWay 100 = .ok (.iconst 0, 1) := by decide +kernel
theorem dX10_readWay_101 : decode cX10_readWay 101 = .ok (.bipush 7, 2) := by decide +kernel
theorem dX10_readWay_103 : decode cX10_readWay 103 = .ok (.invokevirtual 182, 3) := by decide +kernel
theorem dX10_readWay_106 : decode cX10_readWay 106 = .ok (.iastore, 1) := by decide +kernel
theorem dX10_readWay_107 : decode cX10_readWay 107 = .ok (.iload_n 2, 1) := by decide +kernel
theorem dX10_readWay_108 : decode cX10_readWay 108 = .ok (.iconst 3, 1) := by decide +kernel
theorem dX10_readWay_109 : decode cX10_readWay 109 = .ok (.if_icmp .ne 18, 3) := by decide +kernel
theorem dX10_readWay_112 : decode cX10_readWay 112 = .ok (.aload_n 0, 1) := by decide +kernel
theorem dX10_readWay_113 : decode cX10_readWay 113 = .ok (.getfield 38, 3) := by decide +kernel
theorem dX10_readWay_116 : decode cX10_readWay 116 = .ok (.iload_n 1, 1) := by decide +kernel
theorem dX10_readWay_117 : decode cX10_readWay 117 = .ok (.iconst 3, 1) := by decide +kernel
theorem dX10_readWay_118 : decode cX10_readWay 118 = .ok (.iadd, 1) := by decide +kernel
theorem dX10_readWay_119 : decode cX10_readWay 119 = .ok (.aload_n 0, 1) := by decide +kernel
theorem dX10_readWay_120 : decode cX10_readWay 120 = .ok (.iconst 0, 1) := by decide +kernel
theorem dX10_readWay_121 : decode cX10_readWay 121 = .ok (.bipush 30, 2) := by decide +kernel
theorem dX10_readWay_123 : decode cX10_readWay 123 = .ok (.invokevirtual 182, 3) := by decide +kernel
theorem dX10_readWay_126 : decode cX10_readWay 126 = .ok (.iastore, 1) := by decide +kernel
theorem dX10_readWay_127 : decode cX10_readWay 127 = .ok (.return_, 1) := by decide +kernel
theorem dX10_readPerson_0 : decode cX10_readPerson 0 = .ok (.bipush 16, 2) := by decide +kernel
theorem dX10_readPerson_2 : decode cX10_readPerson 2 = .ok (.bipush 10, 2) := by decide +kernel
theorem dX10_readPerson_4 : decode cX10_readPerson 4 = .ok (.aload_n 0, 1) := by decide +kernel
theorem dX10_readPerson_5 : decode cX10_readPerson 5 = .ok (.getfield 38, 3) := by decide +kernel
theorem dX10_readPerson_8 : decode cX10_readPerson 8 = .ok (.bipush 7, 2) := by decide +kernel
theorem dX10_readPerson_10 : decode cX10_readPerson 10 = .ok (.iaload, 1) := by decide +kernel
theorem dX10_readPerson_11 : decode cX10_readPerson 11 = .ok (.imul, 1) := by decide +kernel
theorem dX10_readPerson_12 : decode cX10_readPerson 12 = .ok (.iadd, 1) := by decide +kernel
theorem dX10_readPerson_13 : decode cX10_readPerson 13 = .ok (.istore_n 1, 1) := by decide +kernel
theorem dX10_readPerson_14 : decode cX10_readPerson 14 = .ok (.aload_n 0, 1) := by decide +kernel
theorem dX10_readPerson_15 : decode cX10_readPerson 15 = .ok (.getfield 38, 3) := by decide +kernel
theorem dX10_readPerson_18 : decode cX10_readPerson 18 = .ok (.iload_n 1, 1) := by decide +kernel
theorem dX10_readPerson_19 : decode cX10_readPerson 19 = .ok (.iconst 0, 1) := by decide +kernel
theorem dX10_readPerson_20 : decode cX10_readPerson 20 = .ok (.iadd, 1) := by decide +kernel
theorem dX10_readPerson_21 : decode cX10_readPerson 21 = .ok (.aload_n 0, 1) := by decide +kernel
theorem dX10_readPerson_22 : decode cX10_readPerson 22 = .ok (.ldc 218, 2) := by decide +kernel
theorem dX10_readPerson_24 : decode cX10_readPerson 24 = .ok (.iconst 0, 1) := by decide +kernel
theorem dX10_readPerson_25 : decode cX10_readPerson 25 = .ok (.aload_n 0, 1) := by decide +kernel
theorem dX10_readPerson_26 : decode cX10_readPerson 26 = .ok (.getfield 38, 3) := by decide +kernel
theorem dX10_readPerson_29 : decode cX10_readPerson 29 = .ok (.iconst 1, 1) := by decide +kernel
theorem dX10_readPerson_30 : decode cX10_readPerson 30 = .ok (.iaload, 1) := by decide +kernel
theorem dX10_readPerson_31 : decode cX10_readPerson 31 = .ok (.invokevirtual 193, 3) := by decide +kernel
theorem dX10_readPerson_34 : decode cX10_readPerson 34 = .ok (.iastore, 1) := by decide +kernel
theorem dX10_readPerson_35 : decode cX10_readPerson 35 = .ok (.aload_n 0, 1) := by decide +kernel
theorem dX10_readPerson_36 : decode cX10_readPerson 36 = .ok (.getfield 38, 3) := by decide +kernel
theorem dX10_readPerson_39 : decode cX10_readPerson 39 = .ok (.iload_n 1, 1) := by decide +kernel
theorem dX10_readPerson_40 : decode cX10_readPerson 40 = .ok (.iconst 5, 1) := by decide +kernel
theorem dX10_readPerson_41 : decode cX10_readPerson 41 = .ok (.iadd, 1) := by decide +kernel
theorem dX10_readPerson_42 : decode cX10_readPerson 42 = .ok (.aload_n 0, 1) := by decide +kernel
theorem dX10_readPerson_43 : decode cX10_readPerson 43 = .ok (.ldc 220, 2) := by decide +kernel
theorem dX10_readPerson_45 : decode cX10_readPerson 45 = .ok (.iconst 0, 1) := by decide +kernel
theorem dX10_readPerson_46 : decode cX10_readPerson 46 = .ok (.bipush 9, 2) := by decide +kernel
theorem dX10_readPerson_48 : decode cX10_readPerson 48 = .ok (.invokevirtual 193, 3) := by decide +kernel
theorem dX10_readPerson_51 : decode cX10_readPerson 51 = .ok (.iastore, 1) := by decide +kernel
theorem dX10_readPerson_52 : decode cX10_readPerson 52 = .ok (.aload_n 0, 1) := by decide +kernel
theorem dX10_readPerson_53 : decode cX10_readPerson 53 = .ok (.getfield 38, 3) := by decide +kernel
theorem dX10_readPerson_56 : decode cX10_readPerson 56 = .ok (.iload_n 1, 1) := by decide +kernel
theorem dX10_readPerson_57 : decode cX10_readPerson 57 = .ok (.bipush 6, 2) := by decide +kernel
theorem dX10_readPerson_59 : decode cX10_readPerson 59 = .ok (.iadd, 1) := by decide +kernel
theorem dX10_readPerson_60 : decode cX10_readPerson 60 = .ok (.aload_n 0, 1) := by decide +kernel
theorem dX10_readPerson_61 : decode cX10_readPerson 61 = .ok (.ldc 222, 2) := by decide +kernel
theorem dX10_readPerson_63 : decode cX10_readPerson 63 = .ok (.iconst 0, 1) := by decide +kernel
theorem dX10_readPerson_64 : decode cX10_readPerson 64 = .ok (.bipush 99, 2) := by decide +kernel
theorem dX10_readPerson_66 : decode cX10_readPerson 66 = .ok (.invokevirtual 193, 3) := by decide +kernel
theorem dX10_readPerson_69 : decode cX10_readPerson 69 = .ok (.iastore, 1) := by decide +kernel
theorem dX10_readPerson_70 : decode cX10_readPerson 70 = .ok (.aload_n 0, 1) := by decide +kernel
theorem dX10_readPerson_71 : decode cX10_readPerson 71 = .ok (.getfield 38, 3) := by decide +kernel
theorem dX10_readPerson_74 : decode cX10_readPerson 74 = .ok (.iload_n 1, 1) := by decide +kernel
theorem dX10_readPerson_75 : decode cX10_readPerson 75 = .ok (.bipush 7, 2) := by decide +kernel
theorem dX10_readPerson_77 : decode cX10_readPerson 77 = .ok (.iadd, 1) := by decide +kernel
theorem dX10_readPerson_78 : decode cX10_readPerson 78 = .ok (.aload_n 0, 1) := by decide +kernel
theorem dX10_readPerson_79 : decode cX10_readPerson 79 = .ok (.ldc 224, 2) := by decide +kernel
theorem dX10_readPerson_81 : decode cX10_readPerson 81 = .ok (.iconst 0, 1) := by decide +kernel
theorem dX10_readPerson_82 : decode cX10_readPerson 82 = .ok (.bipush 99, 2) := by decide +kernel
theorem dX10_readPerson_84 : decode cX10_readPerson 84 = .ok (.invokevirtual 193, 3) := by decide +kernel
theorem dX10_readPerson_87 : decode cX10_readPerson 87 = .ok (.iastore, 1) := by decide +kernel
theorem dX10_readPerson_88 : decode cX10_readPerson 88 = .ok (.aload_n 0, 1) := by decide +kernel
theorem dX10_readPerson_89 : decode cX10_readPerson 89 = .ok (.getfield 38, 3) := by decide +kernel
theorem dX10_readPerson_92 : decode cX10_readPerson 92 = .ok (.iload_n 1, 1) := by decide +kernel
theorem dX10_readPerson_93 : decode cX10_readPerson 93 = .ok (.bipush 8, 2) := by decide +kernel
theorem dX10_readPerson_95 : decode cX10_readPerson 95 = .ok (.iadd, 1) := by decide +kernel
theorem dX10_readPerson_96 : decode cX10_readPerson 96 = .ok (.aload_n 0, 1) := by decide +kernel
theorem dX10_readPerson_97 : decode cX10_readPerson 97 = .ok (.ldc 226, 2) := by decide +kernel
theorem dX10_readPerson_99 : decode cX10_readPerson 99 = .ok (.iconst 0, 1) := by decide +kernel
theorem dX10_readPerson_100 : decode cX10_readPerson 100 = .ok (.bipush 99, 2) := by decide +kernel
theorem dX10_readPerson_102 : decode cX10_readPerson 102 = .ok (.invokevirtual 193, 3) := by decide +kernel
theorem dX10_readPerson_105 : decode cX10_readPerson 105 = .ok (.iastore, 1) := by decide +kernel
theorem dX10_readPerson_106 : decode cX10_readPerson 106 = .ok (.aload_n 0, 1) := by decide +kernel
theorem dX10_readPerson_107 : decode cX10_readPerson 107 = .ok (.getfield 38, 3) := by decide +kernel
theorem dX10_readPerson_110 : decode cX10_readPerson 110 = .ok (.iload_n 1, 1) := by decide +kernel
theorem dX10_readPerson_111 : decode cX10_readPerson 111 = .ok (.bipush 9, 2) := by decide +kernel
theorem dX10_readPerson_113 : decode cX10_readPerson 113 = .ok (.iadd, 1) := by decide +kernel
theorem dX10_readPerson_114 : decode cX10_readPerson 114 = .ok (.aload_n 0, 1) := by decide +kernel
theorem dX10_readPerson_115 : decode cX10_readPerson 115 = .ok (.ldc 228, 2) := by decide +kernel
theorem dX10_readPerson_117 : decode cX10_readPerson 117 = .ok (.iconst 0, 1) := by decide +kernel
theorem dX10_readPerson_118 : decode cX10_readPerson 118 = .ok (.bipush 99, 2) := by decide +kernel
theorem dX10_readPerson_120 : decode cX10_readPerson 120 = .ok (.invokevirtual 193, 3) := by decide +kernel
theorem dX10_readPerson_123 : decode cX10_readPerson 123 = .ok (.iastore, 1) := by decide +kernel
theorem dX10_readPerson_124 : decode cX10_readPerson 124 = .ok (.aload_n 0, 1) := by decide +kernel
theorem dX10_readPerson_125 : decode cX10_readPerson 125 = .ok (.iload_n 1, 1) := by decide +kernel
theorem dX10_readPerson_126 : decode cX10_readPerson 126 = .ok (.invokevirtual 230, 3) := by decide +kernel
theorem dX10_readPerson_129 : decode cX10_readPerson 129 = .ok (.aload_n 0, 1) := by decide +kernel
theorem dX10_readPerson_130 : decode cX10_readPerson 130 = .ok (.getfield 38, 3) := by decide +kernel
theorem dX10_readPerson_133 : decode cX10_readPerson 133 = .ok (.bipush 7, 2) := by decide +kernel
theorem dX10_readPerson_135 : decode cX10_readPerson 135 = .ok (.dup2, 1) := by decide +kernel
theorem dX10_readPerson_136 : decode cX10_readPerson 136 = .ok (.iaload, 1) := by decide +kernel
theorem dX10_readPerson_137 : decode cX10_readPerson 137 = .ok (.iconst 1, 1) := by decide +kernel
theorem dX10_readPerson_138 : decode cX10_readPerson 138 = .ok (.iadd, 1) := by decide +kernel
theorem dX10_readPerson_139 : decode cX10_readPerson 139 = .ok (.iastore, 1) := by decide +kernel
theorem dX10_readPerson_140 : decode cX10_readPerson 140 = .ok (.return_, 1) := by decide +kernel
theorem dX10_readSees_0 : decode cX10_readSees 0 = .ok (.aload_n 0, 1) := by decide +kernel
theorem dX10_readSees_1 : decode cX10_readSees 1 = .ok (.iconst 0, 1) := by decide +kernel
theorem dX10_readSees_2 : decode cX10_readSees 2 = .ok (.aload_n 0, 1) := by decide +kernel
theorem dX10_readSees_3 : decode cX10_readSees 3 = .ok (.getfield 38, 3) := by decide +kernel
theorem dX10_readSees_6 : decode cX10_readSees 6 = .ok (.bipush 7, 2) := by decide +kernel
theorem dX10_readSees_8 : decode cX10_readSees 8 = .ok (.iaload, 1) := by decide +kernel
theorem dX10_readSees_9 : decode cX10_readSees 9 = .ok (.iconst 1, 1) := by decide +kernel
theorem dX10_readSees_10 : decode cX10_readSees 10 = .ok (.isub, 1) := by decide +kernel
theorem dX10_readSees_11 : decode cX10_readSees 11 = .ok (.invokevirtual 182, 3) := by decide +kernel
theorem dX10_readSees_14 : decode cX10_readSees 14 = .ok (.istore_n 1, 1) := by decide +kernel
theorem dX10_readSees_15 : decode cX10_readSees 15 = .ok (.aload_n 0, 1) := by decide +kernel
theorem dX10_readSees_16 : decode cX10_readSees 16 = .ok (.invokevirtual 150, 3) := by decide +kernel
theorem dX10_readSees_19 : decode cX10_readSees 19 = .ok (.ifCond .eq 24, 3) := by decide +kernel
theorem dX10_readSees_22 : decode cX10_readSees 22 = .ok (.aload_n 0, 1) := by decide +kernel
theorem dX10_readSees_23 : decode cX10_readSees 23 = .ok (.getfield 126, 3) := by decide +kernel
theorem dX10_readSees_26 : decode cX10_readSees 26 = .ok (.iconst 2, 1) := by decide +kernel
theorem dX10_readSees_27 : decode cX10_readSees 27 = .ok (.if_icmp .ne 16, 3) := by decide +kernel
theorem dX10_readSees_30 : decode cX10_readSees 30 = .ok (.aload_n 0, 1) := by decide +kernel
theorem dX10_readSees_31 : decode cX10_readSees 31 = .ok (.getfield 137, 3) := by decide +kernel
theorem dX10_readSees_34 : decode cX10_readSees 34 = .ok (.iload_n 1, 1) := by decide +kernel
theorem dX10_readSees_35 : decode cX10_readSees 35 = .ok (.if_icmp .ne 8, 3) := by decide +kernel
theorem dX10_readSees_38 : decode cX10_readSees 38 = .ok (.aload_n 0, 1) := by decide +kernel
theorem dX10_readSees_39 : decode cX10_readSees 39 = .ok (.iconst 2, 1) := by decide +kernel
theorem dX10_readSees_40 : decode cX10_readSees 40 = .ok (.invokevirtual 174, 3) := by decide +kernel
theorem dX10_readSees_43 : decode cX10_readSees 43 = .ok (.aload_n 0, 1) := by decide +kernel
theorem dX10_readSees_44 : decode cX10_readSees 44 = .ok (.iconst 0, 1) := by decide +kernel
theorem dX10_readSees_45 : decode cX10_readSees 45 = .ok (.aload_n 0, 1) := by decide +kernel
theorem dX10_readSees_46 : decode cX10_readSees 46 = .ok (.getfield 38, 3) := by decide +kernel
theorem dX10_readSees_49 : decode cX10_readSees 49 = .ok (.bipush 7, 2) := by decide +kernel
theorem dX10_readSees_51 : decode cX10_readSees 51 = .ok (.iaload, 1) := by decide +kernel
theorem dX10_readSees_52 : decode cX10_readSees 52 = .ok (.iconst 1, 1) := by decide +kernel
theorem dX10_readSees_53 : decode cX10_readSees 53 = .ok (.isub, 1) := by decide +kernel
theorem dX10_readSees_54 : decode cX10_readSees 54 = .ok (.invokevirtual 182, 3) := by decide +kernel
theorem dX10_readSees_57 : decode cX10_readSees 57 = .ok (.istore_n 2, 1) := by decide +kernel
theorem dX10_readSees_58 : decode cX10_readSees 58 = .ok (.aload_n 0, 1) := by decide +kernel
theorem dX10_readSees_59 : decode cX10_readSees 59 = .ok (.ldc 233, 2) := by decide +kernel
theorem dX10_readSees_61 : decode cX10_readSees 61 = .ok (.iconst 1, 1) := by decide +kernel
theorem dX10_readSees_62 : decode cX10_readSees 62 = .ok (.bipush 30, 2) := by decide +kernel
theorem dX10_readSees_64 : decode cX10_readSees 64 = .ok (.invokevirtual 193, 3) := by decide +kernel
theorem dX10_readSees_67 : decode cX10_readSees 67 = .ok (.istore_n 3, 1) := by decide +kernel
theorem dX10_readSees_68 : decode cX10_readSees 68 = .ok (.aload_n 0, 1) := by decide +kernel
theorem dX10_readSees_69 : decode cX10_readSees 69 = .ok (.invokevirtual 150, 3) := by decide +kernel
theorem dX10_readSees_72 : decode cX10_readSees 72 = .ok (.ifCond .eq 18, 3) := by decide +kernel
theorem dX10_readSees_75 : decode cX10_readSees 75 = .ok (.aload_n 0, 1) := by decide +kernel
theorem dX10_readSees_76 : decode cX10_readSees 76 = .ok (.getfield 38, 3) := by decide +kernel
theorem dX10_readSees_79 : decode cX10_readSees 79 = .ok (.bipush 96, 2) := by decide +kernel
theorem dX10_readSees_81 : decode cX10_readSees 81 = .ok (.bipush 8, 2) := by decide +kernel
theorem dX10_readSees_83 : decode cX10_readSees 83 = .ok (.iload_n 1, 1) := by decide +kernel
theorem dX10_readSees_84 : decode cX10_readSees 84 = .ok (.imul, 1) := by decide +kernel
theorem dX10_readSees_85 : decode cX10_readSees 85 = .ok (.iadd, 1) := by decide +kernel
theorem dX10_readSees_86 : decode cX10_readSees 86 = .ok (.iload_n 2, 1) := by decide +kernel
theorem dX10_readSees_87 : decode cX10_readSees 87 = .ok (.iadd, 1) := by decide +kernel
theorem dX10_readSees_88 : decode cX10_readSees 88 = .ok (.iload_n 3, 1) := by decide +kernel
theorem dX10_readSees_89 : decode cX10_readSees 89 = .ok (.iastore, 1) := by decide +kernel
theorem dX10_readSees_90 : decode cX10_readSees 90 = .ok (.aload_n 0, 1) := by decide +kernel
theorem dX10_readSees_91 : decode cX10_readSees 91 = .ok (.getfield 38, 3) := by decide +kernel
theorem dX10_readSees_94 : decode cX10_readSees 94 = .ok (.bipush 8, 2) := by decide +kernel
theorem dX10_readSees_96 : decode cX10_readSees 96 = .ok (.dup2, 1) := by decide +kernel
theorem dX10_readSees_97 : decode cX10_readSees 97 = .ok (.iaload, 1) := by decide +kernel
theorem dX10_readSees_98 : decode cX10_readSees 98 = .ok (.iconst 1, 1) := by decide +kernel
theorem dX10_readSees_99 : decode cX10_readSees 99 = .ok (.iadd, 1) := by decide +kernel
theorem dX10_readSees_100 : decode cX10_readSees 100 = .ok (.iastore, 1) := by decide +kernel
theorem dX10_readSees_101 : decode cX10_readSees 101 = .ok (.return_, 1) := by decide +kernel
theorem dX10_readNext_0 : decode cX10_readNext 0 = .ok (.aload_n 0, 1) := by decide +kernel
theorem dX10_readNext_1 : decode cX10_readNext 1 = .ok (.ldc 235, 2) := by decide +kernel
theorem dX10_readNext_3 : decode cX10_readNext 3 = .ok (.invokevirtual 164, 3) := by decide +kernel
theorem dX10_readNext_6 : decode cX10_readNext 6 = .ok (.ifCond .ne 30, 3) := by decide +kernel
theorem dX10_readNext_9 : decode cX10_readNext 9 = .ok (.aload_n 0, 1) := by decide +kernel
theorem dX10_readNext_10 : decode cX10_readNext 10 = .ok (.ldc 237, 2) := by decide +kernel
theorem dX10_readNext_12 : decode cX10_readNext 12 = .ok (.invokevirtual 164, 3) := by decide +kernel
theorem dX10_readNext_15 : decode cX10_readNext 15 = .ok (.ifCond .ne 21, 3) := by decide +kernel
theorem dX10_readNext_18 : decode cX10_readNext 18 = .ok (.aload_n 0, 1) := by decide +kernel
theorem dX10_readNext_19 : decode cX10_readNext 19 = .ok (.ldc 239, 2) := by decide +kernel
theorem dX10_readNext_21 : decode cX10_readNext 21 = .ok (.invokevirtual 164, 3) := by decide +kernel
theorem dX10_readNext_24 : decode cX10_readNext 24 = .ok (.ifCond .ne 12, 3) := by decide +kernel
theorem dX10_readNext_27 : decode cX10_readNext 27 = .ok (.aload_n 0, 1) := by decide +kernel
theorem dX10_readNext_28 : decode cX10_readNext 28 = .ok (.ldc 241, 2) := by decide +kernel
theorem dX10_readNext_30 : decode cX10_readNext 30 = .ok (.invokevirtual 164, 3) := by decide +kernel
theorem dX10_readNext_33 : decode cX10_readNext 33 = .ok (.ifCond .eq 7, 3) := by decide +kernel
theorem dX10_readNext_36 : decode cX10_readNext 36 = .ok (.iconst 1, 1) := by decide +kernel
theorem dX10_readNext_37 : decode cX10_readNext 37 = .ok (.goto 4, 3) := by decide +kernel
theorem dX10_readNext_40 : decode cX10_readNext 40 = .ok (.iconst 0, 1) := by decide +kernel
theorem dX10_readNext_41 : decode cX10_readNext 41 = .ok (.istore_n 1, 1) := by decide +kernel
theorem dX10_readNext_42 : decode cX10_readNext 42 = .ok (.iload_n 1, 1) := by decide +kernel
theorem dX10_readNext_43 : decode cX10_readNext 43 = .ok (.ifCond .ne 8, 3) := by decide +kernel
theorem dX10_readNext_46 : decode cX10_readNext 46 = .ok (.aload_n 0, 1) := by decide +kernel
theorem dX10_readNext_47 : decode cX10_readNext 47 = .ok (.iconst 1, 1) := by decide +kernel
theorem dX10_readNext_48 : decode cX10_readNext 48 = .ok (.invokevirtual 174, 3) := by decide +kernel
theorem dX10_readNext_51 : decode cX10_readNext 51 = .ok (.aload_n 0, 1) := by decide +kernel
theorem dX10_readNext_52 : decode cX10_readNext 52 = .ok (.ldc 235, 2) := by decide +kernel
theorem dX10_readNext_54 : decode cX10_readNext 54 = .ok (.invokevirtual 164, 3) := by decide +kernel
theorem dX10_readNext_57 : decode cX10_readNext 57 = .ok (.ifCond .eq 16, 3) := by decide +kernel
theorem dX10_readNext_60 : decode cX10_readNext 60 = .ok (.aload_n 0, 1) := by decide +kernel
theorem dX10_readNext_61 : decode cX10_readNext 61 = .ok (.getfield 38, 3) := by decide +kernel
theorem dX10_readNext_64 : decode cX10_readNext 64 = .ok (.bipush 12, 2) := by decide +kernel
theorem dX10_readNext_66 : decode cX10_readNext 66 = .ok (.iaload, 1) := by decide +kernel
theorem dX10_readNext_67 : decode cX10_readNext 67 = .ok (.iconst 1, 1) := by decide +kernel
theorem dX10_readNext_68 : decode cX10_readNext 68 = .ok (.iand, 1) := by decide +kernel
theorem dX10_readNext_69 : decode cX10_readNext 69 = .ok (.iconst 1, 1) := by decide +kernel
theorem dX10_readNext_70 : decode cX10_readNext 70 = .ok (.if_icmp .eq 25, 3) := by decide +kernel
theorem dX10_readNext_73 : decode cX10_readNext 73 = .ok (.aload_n 0, 1) := by decide +kernel
theorem dX10_readNext_74 : decode cX10_readNext 74 = .ok (.ldc 241, 2) := by decide +kernel
theorem dX10_readNext_76 : decode cX10_readNext 76 = .ok (.invokevirtual 164, 3) := by decide +kernel
theorem dX10_readNext_79 : decode cX10_readNext 79 = .ok (.ifCond .eq 21, 3) := by decide +kernel
theorem dX10_readNext_82 : decode cX10_readNext 82 = .ok (.aload_n 0, 1) := by decide +kernel
theorem dX10_readNext_83 : decode cX10_readNext 83 = .ok (.getfield 38, 3) := by decide +kernel
theorem dX10_readNext_86 : decode cX10_readNext 86 = .ok (.bipush 12, 2) := by decide +kernel
theorem dX10_readNext_88 : decode cX10_readNext 88 = .ok (.iaload, 1) := by decide +kernel
theorem dX10_readNext_89 : decode cX10_readNext 89 = .ok (.iconst 2, 1) := by decide +kernel
theorem dX10_readNext_90 : decode cX10_readNext 90 = .ok (.iand, 1) := by decide +kernel
theorem dX10_readNext_91 : decode cX10_readNext 91 = .ok (.iconst 2, 1) := by decide +kernel
theorem dX10_readNext_92 : decode cX10_readNext 92 = .ok (.if_icmp .ne 8, 3) := by decide +kernel
theorem dX10_readNext_95 : decode cX10_readNext 95 = .ok (.aload_n 0, 1) := by decide +kernel
theorem dX10_readNext_96 : decode cX10_readNext 96 = .ok (.iconst 2, 1) := by decide +kernel
theorem dX10_readNext_97 : decode cX10_readNext 97 = .ok (.invokevirtual 174, 3) := by decide +kernel
theorem dX10_readNext_100 : decode cX10_readNext 100 = .ok (.aload_n 0, 1) := by decide +kernel
theorem dX10_readNext_101 : decode cX10_readNext 101 = .ok (.ldc 237, 2) := by decide +kernel
theorem dX10_readNext_103 : decode cX10_readNext 103 = .ok (.invokevirtual 164, 3) := by decide +kernel
theorem dX10_readNext_106 : decode cX10_readNext 106 = .ok (.ifCond .eq 15, 3) := by decide +kernel
theorem dX10_readNext_109 : decode cX10_readNext 109 = .ok (.aload_n 0, 1) := by decide +kernel
theorem dX10_readNext_110 : decode cX10_readNext 110 = .ok (.getfield 38, 3) := by decide +kernel
theorem dX10_readNext_113 : decode cX10_readNext 113 = .ok (.bipush 7, 2) := by decide +kernel
theorem dX10_readNext_115 : decode cX10_readNext 115 = .ok (.iaload, 1) := by decide +kernel
theorem dX10_readNext_116 : decode cX10_readNext 116 = .ok (.bipush 8, 2) := by decide +kernel
theorem dX10_readNext_118 : decode cX10_readNext 118 = .ok (.if_icmp .eq 24, 3) := by decide +kernel
theorem dX10_readNext_121 : decode cX10_readNext 121 = .ok (.aload_n 0, 1) := by decide +kernel
theorem dX10_readNext_122 : decode cX10_readNext 122 = .ok (.ldc 239, 2) := by decide +kernel
theorem dX10_readNext_124 : decode cX10_readNext 124 = .ok (.invokevirtual 164, 3) := by decide +kernel
theorem dX10_readNext_127 : decode cX10_readNext 127 = .ok (.ifCond .eq 20, 3) := by decide +kernel
theorem dX10_readNext_130 : decode cX10_readNext 130 = .ok (.aload_n 0, 1) := by decide +kernel
theorem dX10_readNext_131 : decode cX10_readNext 131 = .ok (.getfield 38, 3) := by decide +kernel
theorem dX10_readNext_134 : decode cX10_readNext 134 = .ok (.bipush 8, 2) := by decide +kernel
theorem dX10_readNext_136 : decode cX10_readNext 136 = .ok (.iaload, 1) := by decide +kernel
theorem dX10_readNext_137 : decode cX10_readNext 137 = .ok (.bipush 12, 2) := by decide +kernel
theorem dX10_readNext_139 : decode cX10_readNext 139 = .ok (.if_icmp .ne 8, 3) := by decide +kernel
theorem dX10_readNext_142 : decode cX10_readNext 142 = .ok (.aload_n 0, 1) := by decide +kernel
theorem dX10_readNext_143 : decode cX10_readNext 143 = .ok (.iconst 3, 1) := by decide +kernel
theorem dX10_readNext_144 : decode cX10_readNext 144 = .ok (.invokevirtual 174, 3) := by decide +kernel
theorem dX10_readNext_147 : decode cX10_readNext 147 = .ok (.aload_n 0, 1) := by decide +kernel
theorem dX10_readNext_148 : decode cX10_readNext 148 = .ok (.invokevirtual 150, 3) := by decide +kernel
theorem dX10_readNext_151 : decode cX10_readNext 151 = .ok (.ifCond .ne 4, 3) := by decide +kernel
theorem dX10_readNext_154 : decode cX10_readNext 154 = .ok (.return_, 1) := by decide +kernel
theorem dX10_readNext_155 : decode cX10_readNext 155 = .ok (.aload_n 0, 1) := by decide +kernel
theorem dX10_readNext_156 : decode cX10_readNext 156 = .ok (.ldc 235, 2) := by decide +kernel
theorem dX10_readNext_158 : decode cX10_readNext 158 = .ok (.invokevirtual 171, 3) := by decide +kernel
theorem dX10_readNext_161 : decode cX10_readNext 161 = .ok (.ifCond .eq 10, 3) := by decide +kernel
theorem dX10_readNext_164 : decode cX10_readNext 164 = .ok (.aload_n 0, 1) := by decide +kernel
theorem dX10_readNext_165 : decode cX10_readNext 165 = .ok (.invokevirtual 243, 3) := by decide +kernel
theorem dX10_readNext_168 : decode cX10_readNext 168 = .ok (.goto 64, 3) := by decide +kernel
theorem dX10_readNext_171 : decode cX10_readNext 171 = .ok (.aload_n 0, 1) := by decide +kernel
theorem dX10_readNext_172 : decode cX10_readNext 172 = .ok (.ldc 237, 2) := by decide +kernel
theorem dX10_readNext_174 : decode cX10_readNext 174 = .ok (.invokevirtual 171, 3) := by decide +kernel
theorem dX10_readNext_177 : decode cX10_readNext 177 = .ok (.ifCond .eq 10, 3) := by decide +kernel
theorem dX10_readNext_180 : decode cX10_readNext 180 = .ok (.aload_n 0, 1) := by decide +kernel
theorem dX10_readNext_181 : decode cX10_readNext 181 = .ok (.invokevirtual 246, 3) := by decide +kernel
theorem dX10_readNext_184 : decode cX10_readNext 184 = .ok (.goto 48, 3) := by decide +kernel
theorem dX10_readNext_187 : decode cX10_readNext 187 = .ok (.aload_n 0, 1) := by decide +kernel
theorem dX10_readNext_188 : decode cX10_readNext 188 = .ok (.ldc 239, 2) := by decide +kernel
theorem dX10_readNext_190 : decode cX10_readNext 190 = .ok (.invokevirtual 171, 3) := by decide +kernel
theorem dX10_readNext_193 : decode cX10_readNext 193 = .ok (.ifCond .eq 10, 3) := by decide +kernel
theorem dX10_readNext_196 : decode cX10_readNext 196 = .ok (.aload_n 0, 1) := by decide +kernel
theorem dX10_readNext_197 : decode cX10_readNext 197 = .ok (.invokevirtual 249, 3) := by decide +kernel
theorem dX10_readNext_200 : decode cX10_readNext 200 = .ok (.goto 32, 3) := by decide +kernel
theorem dX10_readNext_203 : decode cX10_readNext 203 = .ok (.aload_n 0, 1) := by decide +kernel
theorem dX10_readNext_204 : decode cX10_readNext 204 = .ok (.invokevirtual 168, 3) := by decide +kernel
theorem dX10_readNext_207 : decode cX10_readNext 207 = .ok (.aload_n 0, 1) := by decide +kernel
theorem dX10_readNext_208 : decode cX10_readNext 208 = .ok (.getfield 38, 3) := by decide +kernel
theorem dX10_readNext_211 : decode cX10_readNext 211 = .ok (.bipush 12, 2) := by decide +kernel
theorem dX10_readNext_213 : decode cX10_readNext 213 = .ok (.dup2, 1) := by decide +kernel
theorem dX10_readNext_214 : decode cX10_readNext 214 = .ok (.iaload, 1) := by decide +kernel
theorem dX10_readNext_215 : decode cX10_readNext 215 = .ok (.iconst 2, 1) := by decide +kernel
theorem dX10_readNext_216 : decode cX10_readNext 216 = .ok (.ior, 1) := by decide +kernel
theorem dX10_readNext_217 : decode cX10_readNext 217 = .ok (.iastore, 1) := by decide +kernel
theorem dX10_readNext_218 : decode cX10_readNext 218 = .ok (.aload_n 0, 1) := by decide +kernel
theorem dX10_readNext_219 : decode cX10_readNext 219 = .ok (.getfield 38, 3) := by decide +kernel
theorem dX10_readNext_222 : decode cX10_readNext 222 = .ok (.bipush 6, 2) := by decide +kernel
theorem dX10_readNext_224 : decode cX10_readNext 224 = .ok (.aload_n 0, 1) := by decide +kernel
theorem dX10_readNext_225 : decode cX10_readNext 225 = .ok (.iconst 0, 1) := by decide +kernel
theorem dX10_readNext_226 : decode cX10_readNext 226 = .ok (.bipush 100, 2) := by decide +kernel
theorem dX10_readNext_228 : decode cX10_readNext 228 = .ok (.invokevirtual 182, 3) := by decide +kernel
theorem dX10_readNext_231 : decode cX10_readNext 231 = .ok (.iastore, 1) := by decide +kernel
theorem dX10_readNext_232 : decode cX10_readNext 232 = .ok (.return_, 1) := by decide +kernel
theorem dX10_readLine_0 : decode cX10_readLine 0 = .ok (.aload_n 0, 1) := by decide +kernel
theorem dX10_readLine_1 : decode cX10_readLine 1 = .ok (.getfield 38, 3) := by decide +kernel
theorem dX10_readLine_4 : decode cX10_readLine 4 = .ok (.iconst 0, 1) := by decide +kernel
theorem dX10_readLine_5 : decode cX10_readLine 5 = .ok (.iaload, 1) := by decide +kernel
theorem dX10_readLine_6 : decode cX10_readLine 6 = .ok (.ifCond .ne 27, 3) := by decide +kernel
theorem dX10_readLine_9 : decode cX10_readLine 9 = .ok (.aload_n 0, 1) := by decide +kernel
theorem dX10_readLine_10 : decode cX10_readLine 10 = .ok (.ldc 252, 2) := by decide +kernel
theorem dX10_readLine_12 : decode cX10_readLine 12 = .ok (.invokevirtual 178, 3) := by decide +kernel
theorem dX10_readLine_15 : decode cX10_readLine 15 = .ok (.aload_n 0, 1) := by decide +kernel
theorem dX10_readLine_16 : decode cX10_readLine 16 = .ok (.getfield 38, 3) := by decide +kernel
theorem dX10_readLine_19 : decode cX10_readLine 19 = .ok (.iconst 1, 1) := by decide +kernel
theorem dX10_readLine_20 : decode cX10_readLine 20 = .ok (.aload_n 0, 1) := by decide +kernel
theorem dX10_readLine_21 : decode cX10_readLine 21 = .ok (.ldc 254, 2) := by decide +kernel
theorem dX10_readLine_23 : decode cX10_readLine 23 = .ok (.iconst 5, 1) := by decide +kernel
theorem dX10_readLine_24 : decode cX10_readLine 24 = .ok (.bipush 30, 2) := by decide +kernel
theorem dX10_readLine_26 : decode cX10_readLine 26 = .ok (.invokevirtual 193, 3) := by decide +kernel
theorem dX10_readLine_29 : decode cX10_readLine 29 = .ok (.iastore, 1) := by decide +kernel
theorem dX10_readLine_30 : decode cX10_readLine 30 = .ok (.goto 7, 3) := by decide +kernel
theorem dX10_readLine_33 : decode cX10_readLine 33 = .ok (.aload_n 0, 1) := by decide +kernel
theorem dX10_readLine_34 : decode cX10_readLine 34 = .ok (.invokevirtual 256, 3) := by decide +kernel
theorem dX10_readLine_37 : decode cX10_readLine 37 = .ok (.aload_n 0, 1) := by decide +kernel
theorem dX10_readLine_38 : decode cX10_readLine 38 = .ok (.invokevirtual 150, 3) := by decide +kernel
theorem dX10_readLine_41 : decode cX10_readLine 41 = .ok (.ifCond .eq 16, 3) := by decide +kernel
theorem dX10_readLine_44 : decode cX10_readLine 44 = .ok (.aload_n 0, 1) := by decide +kernel
theorem dX10_readLine_45 : decode cX10_readLine 45 = .ok (.getfield 126, 3) := by decide +kernel
theorem dX10_readLine_48 : decode cX10_readLine 48 = .ok (.iconst 3, 1) := by decide +kernel
theorem dX10_readLine_49 : decode cX10_readLine 49 = .ok (.if_icmp .eq 8, 3) := by decide +kernel
theorem dX10_readLine_52 : decode cX10_readLine 52 = .ok (.aload_n 0, 1) := by decide +kernel
theorem dX10_readLine_53 : decode cX10_readLine 53 = .ok (.iconst 1, 1) := by decide +kernel
theorem dX10_readLine_54 : decode cX10_readLine 54 = .ok (.invokevirtual 174, 3) := by decide +kernel
theorem dX10_readLine_57 : decode cX10_readLine 57 = .ok (.aload_n 0, 1) := by decide +kernel
theorem dX10_readLine_58 : decode cX10_readLine 58 = .ok (.invokevirtual 150, 3) := by decide +kernel
theorem dX10_readLine_61 : decode cX10_readLine 61 = .ok (.ifCond .eq 7, 3) := by decide +kernel
theorem dX10_readLine_64 : decode cX10_readLine 64 = .ok (.aload_n 0, 1) := by decide +kernel
theorem dX10_readLine_65 : decode cX10_readLine 65 = .ok (.invokevirtual 168, 3) := by decide +kernel
theorem dX10_readLine_68 : decode cX10_readLine 68 = .ok (.aload_n 0, 1) := by decide +kernel
theorem dX10_readLine_69 : decode cX10_readLine 69 = .ok (.getfield 38, 3) := by decide +kernel
theorem dX10_readLine_72 : decode cX10_readLine 72 = .ok (.iconst 0, 1) := by decide +kernel
theorem dX10_readLine_73 : decode cX10_readLine 73 = .ok (.dup2, 1) := by decide +kernel
theorem dX10_readLine_74 : decode cX10_readLine 74 = .ok (.iaload, 1) := by decide +kernel
theorem dX10_readLine_75 : decode cX10_readLine 75 = .ok (.iconst 1, 1) := by decide +kernel
theorem dX10_readLine_76 : decode cX10_readLine 76 = .ok (.iadd, 1) := by decide +kernel
theorem dX10_readLine_77 : decode cX10_readLine 77 = .ok (.iastore, 1) := by decide +kernel
theorem dX10_readLine_78 : decode cX10_readLine 78 = .ok (.return_, 1) := by decide +kernel
theorem dX10_town_0 : decode cX10_town 0 = .ok (.aload_n 0, 1) := by decide +kernel
theorem dX10_town_1 : decode cX10_town 1 = .ok (.aload_n 0, 1) := by decide +kernel
theorem dX10_town_2 : decode cX10_town 2 = .ok (.getfield 110, 3) := by decide +kernel
theorem dX10_town_5 : decode cX10_town 5 = .ok (.putfield 113, 3) := by decide +kernel
theorem dX10_town_8 : decode cX10_town 8 = .ok (.aload_n 0, 1) := by decide +kernel
theorem dX10_town_9 : decode cX10_town 9 = .ok (.iconst 0, 1) := by decide +kernel
theorem dX10_town_10 : decode cX10_town 10 = .ok (.putfield 110, 3) := by decide +kernel
theorem dX10_town_13 : decode cX10_town 13 = .ok (.aload_n 0, 1) := by decide +kernel
theorem dX10_town_14 : decode cX10_town 14 = .ok (.iconst 0, 1) := by decide +kernel
theorem dX10_town_15 : decode cX10_town 15 = .ok (.putfield 116, 3) := by decide +kernel
