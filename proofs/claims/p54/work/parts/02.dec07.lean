theorem dX9_beside_17 : decode cX9_beside 17 = .ok (.ldc 223, 2) := by decide +kernel
theorem dX9_beside_19 : decode cX9_beside 19 = .ok (.ireturn, 1) := by decide +kernel
theorem dX9_beside_20 : decode cX9_beside 20 = .ok (.iload_n 2, 1) := by decide +kernel
theorem dX9_beside_21 : decode cX9_beside 21 = .ok (.iconst 1, 1) := by decide +kernel
theorem dX9_beside_22 : decode cX9_beside 22 = .ok (.if_icmp .eq 12, 3) := by decide +kernel
theorem dX9_beside_25 : decode cX9_beside 25 = .ok (.iload_n 2, 1) := by decide +kernel
theorem dX9_beside_26 : decode cX9_beside 26 = .ok (.iconst 4, 1) := by decide +kernel
theorem dX9_beside_27 : decode cX9_beside 27 = .ok (.if_icmp .eq 7, 3) := by decide +kernel
theorem dX9_beside_30 : decode cX9_beside 30 = .ok (.iconst 1, 1) := by decide +kernel
theorem dX9_beside_31 : decode cX9_beside 31 = .ok (.goto 4, 3) := by decide +kernel
theorem dX9_beside_34 : decode cX9_beside 34 = .ok (.iconst 0, 1) := by decide +kernel
theorem dX9_beside_35 : decode cX9_beside 35 = .ok (.istore_n 3, 1) := by decide +kernel
theorem dX9_beside_36 : decode cX9_beside 36 = .ok (.aload_n 0, 1) := by decide +kernel
theorem dX9_beside_37 : decode cX9_beside 37 = .ok (.invokevirtual 202, 3) := by decide +kernel
theorem dX9_beside_40 : decode cX9_beside 40 = .ok (.astore 4, 2) := by decide +kernel
theorem dX9_beside_42 : decode cX9_beside 42 = .ok (.iconst 0, 1) := by decide +kernel
theorem dX9_beside_43 : decode cX9_beside 43 = .ok (.istore 5, 2) := by decide +kernel
theorem dX9_beside_45 : decode cX9_beside 45 = .ok (.iconst 0, 1) := by decide +kernel
theorem dX9_beside_46 : decode cX9_beside 46 = .ok (.istore 6, 2) := by decide +kernel
theorem dX9_beside_48 : decode cX9_beside 48 = .ok (.iload 6, 2) := by decide +kernel
theorem dX9_beside_50 : decode cX9_beside 50 = .ok (.iload_n 1, 1) := by decide +kernel
theorem dX9_beside_51 : decode cX9_beside 51 = .ok (.if_icmp .ge 31, 3) := by decide +kernel
theorem dX9_beside_54 : decode cX9_beside 54 = .ok (.aload_n 0, 1) := by decide +kernel
theorem dX9_beside_55 : decode cX9_beside 55 = .ok (.getfield 57, 3) := by decide +kernel
theorem dX9_beside_58 : decode cX9_beside 58 = .ok (.aload 4, 2) := by decide +kernel
theorem dX9_beside_60 : decode cX9_beside 60 = .ok (.iload_n 3, 1) := by decide +kernel
theorem dX9_beside_61 : decode cX9_beside 61 = .ok (.invokevirtual 218, 3) := by decide +kernel
theorem dX9_beside_64 : decode cX9_beside 64 = .ok (.iload 5, 2) := by decide +kernel
theorem dX9_beside_66 : decode cX9_beside 66 = .ok (.aload_n 0, 1) := by decide +kernel
theorem dX9_beside_67 : decode cX9_beside 67 = .ok (.getfield 57, 3) := by decide +kernel
theorem dX9_beside_70 : decode cX9_beside 70 = .ok (.getfield 222, 3) := by decide +kernel
theorem dX9_beside_73 : decode cX9_beside 73 = .ok (.iadd, 1) := by decide +kernel
theorem dX9_beside_74 : decode cX9_beside 74 = .ok (.istore 5, 2) := by decide +kernel
theorem dX9_beside_76 : decode cX9_beside 76 = .ok (.iinc 6 1, 3) := by decide +kernel
theorem dX9_beside_79 : decode cX9_beside 79 = .ok (.goto (-31), 3) := by decide +kernel
theorem dX9_beside_82 : decode cX9_beside 82 = .ok (.iload_n 2, 1) := by decide +kernel
theorem dX9_beside_83 : decode cX9_beside 83 = .ok (.iconst 2, 1) := by decide +kernel
theorem dX9_beside_84 : decode cX9_beside 84 = .ok (.if_icmp .ge 9, 3) := by decide +kernel
theorem dX9_beside_87 : decode cX9_beside 87 = .ok (.aload 4, 2) := by decide +kernel
theorem dX9_beside_89 : decode cX9_beside 89 = .ok (.invokevirtual 292, 3) := by decide +kernel
theorem dX9_beside_92 : decode cX9_beside 92 = .ok (.ireturn, 1) := by decide +kernel
theorem dX9_beside_93 : decode cX9_beside 93 = .ok (.iload_n 2, 1) := by decide +kernel
theorem dX9_beside_94 : decode cX9_beside 94 = .ok (.iconst 2, 1) := by decide +kernel
theorem dX9_beside_95 : decode cX9_beside 95 = .ok (.if_icmp .ne 8, 3) := by decide +kernel
theorem dX9_beside_98 : decode cX9_beside 98 = .ok (.iload 5, 2) := by decide +kernel
theorem dX9_beside_100 : decode cX9_beside 100 = .ok (.goto 16, 3) := by decide +kernel
theorem dX9_beside_103 : decode cX9_beside 103 = .ok (.aload 4, 2) := by decide +kernel
theorem dX9_beside_105 : decode cX9_beside 105 = .ok (.invokevirtual 296, 3) := by decide +kernel
theorem dX9_beside_108 : decode cX9_beside 108 = .ok (.aload_n 0, 1) := by decide +kernel
theorem dX9_beside_109 : decode cX9_beside 109 = .ok (.getfield 19, 3) := by decide +kernel
theorem dX9_beside_112 : decode cX9_beside 112 = .ok (.invokevirtual 296, 3) := by decide +kernel
theorem dX9_beside_115 : decode cX9_beside 115 = .ok (.isub, 1) := by decide +kernel
theorem dX9_beside_116 : decode cX9_beside 116 = .ok (.ireturn, 1) := by decide +kernel
theorem dX9_law_0 : decode cX9_law 0 = .ok (.aload_n 0, 1) := by decide +kernel
theorem dX9_law_1 : decode cX9_law 1 = .ok (.getfield 19, 3) := by decide +kernel
theorem dX9_law_4 : decode cX9_law 4 = .ok (.getfield 88, 3) := by decide +kernel
theorem dX9_law_7 : decode cX9_law 7 = .ok (.ifCond .eq 32, 3) := by decide +kernel
theorem dX9_law_10 : decode cX9_law 10 = .ok (.iload_n 1, 1) := by decide +kernel
theorem dX9_law_11 : decode cX9_law 11 = .ok (.ifCond .lt 28, 3) := by decide +kernel
theorem dX9_law_14 : decode cX9_law 14 = .ok (.iload_n 1, 1) := by decide +kernel
theorem dX9_law_15 : decode cX9_law 15 = .ok (.bipush 30, 2) := by decide +kernel
theorem dX9_law_17 : decode cX9_law 17 = .ok (.if_icmp .gt 22, 3) := by decide +kernel
theorem dX9_law_20 : decode cX9_law 20 = .ok (.iload_n 2, 1) := by decide +kernel
theorem dX9_law_21 : decode cX9_law 21 = .ok (.iconst 2, 1) := by decide +kernel
theorem dX9_law_22 : decode cX9_law 22 = .ok (.if_icmp .lt 17, 3) := by decide +kernel
theorem dX9_law_25 : decode cX9_law 25 = .ok (.iload_n 2, 1) := by decide +kernel
theorem dX9_law_26 : decode cX9_law 26 = .ok (.iconst 4, 1) := by decide +kernel
theorem dX9_law_27 : decode cX9_law 27 = .ok (.if_icmp .gt 12, 3) := by decide +kernel
theorem dX9_law_30 : decode cX9_law 30 = .ok (.iload_n 3, 1) := by decide +kernel
theorem dX9_law_31 : decode cX9_law 31 = .ok (.ifCond .lt 8, 3) := by decide +kernel
theorem dX9_law_34 : decode cX9_law 34 = .ok (.iload_n 3, 1) := by decide +kernel
theorem dX9_law_35 : decode cX9_law 35 = .ok (.iconst 2, 1) := by decide +kernel
theorem dX9_law_36 : decode cX9_law 36 = .ok (.if_icmp .le 6, 3) := by decide +kernel
theorem dX9_law_39 : decode cX9_law 39 = .ok (.bipush (-2), 2) := by decide +kernel
theorem dX9_law_41 : decode cX9_law 41 = .ok (.ireturn, 1) := by decide +kernel
theorem dX9_law_42 : decode cX9_law 42 = .ok (.aload_n 0, 1) := by decide +kernel
theorem dX9_law_43 : decode cX9_law 43 = .ok (.getfield 19, 3) := by decide +kernel
theorem dX9_law_46 : decode cX9_law 46 = .ok (.getfield 154, 3) := by decide +kernel
theorem dX9_law_49 : decode cX9_law 49 = .ok (.iload_n 1, 1) := by decide +kernel
theorem dX9_law_50 : decode cX9_law 50 = .ok (.putfield 299, 3) := by decide +kernel
theorem dX9_law_53 : decode cX9_law 53 = .ok (.aload_n 0, 1) := by decide +kernel
theorem dX9_law_54 : decode cX9_law 54 = .ok (.getfield 19, 3) := by decide +kernel
theorem dX9_law_57 : decode cX9_law 57 = .ok (.getfield 154, 3) := by decide +kernel
theorem dX9_law_60 : decode cX9_law 60 = .ok (.iload_n 2, 1) := by decide +kernel
theorem dX9_law_61 : decode cX9_law 61 = .ok (.putfield 304, 3) := by decide +kernel
theorem dX9_law_64 : decode cX9_law 64 = .ok (.aload_n 0, 1) := by decide +kernel
theorem dX9_law_65 : decode cX9_law 65 = .ok (.getfield 19, 3) := by decide +kernel
theorem dX9_law_68 : decode cX9_law 68 = .ok (.getfield 154, 3) := by decide +kernel
theorem dX9_law_71 : decode cX9_law 71 = .ok (.iload_n 3, 1) := by decide +kernel
theorem dX9_law_72 : decode cX9_law 72 = .ok (.putfield 307, 3) := by decide +kernel
theorem dX9_law_75 : decode cX9_law 75 = .ok (.aload_n 0, 1) := by decide +kernel
theorem dX9_law_76 : decode cX9_law 76 = .ok (.getfield 19, 3) := by decide +kernel
theorem dX9_law_79 : decode cX9_law 79 = .ok (.getfield 154, 3) := by decide +kernel
theorem dX9_law_82 : decode cX9_law 82 = .ok (.iload 4, 2) := by decide +kernel
theorem dX9_law_84 : decode cX9_law 84 = .ok (.putfield 310, 3) := by decide +kernel
theorem dX9_law_87 : decode cX9_law 87 = .ok (.iconst 0, 1) := by decide +kernel
theorem dX9_law_88 : decode cX9_law 88 = .ok (.ireturn, 1) := by decide +kernel
theorem dX9_laws_0 : decode cX9_laws 0 = .ok (.aload_n 0, 1) := by decide +kernel
theorem dX9_laws_1 : decode cX9_laws 1 = .ok (.iload_n 1, 1) := by decide +kernel
theorem dX9_laws_2 : decode cX9_laws 2 = .ok (.invokevirtual 215, 3) := by decide +kernel
theorem dX9_laws_5 : decode cX9_laws 5 = .ok (.ifCond .ne 6, 3) := by decide +kernel
theorem dX9_laws_8 : decode cX9_laws 8 = .ok (.bipush (-2), 2) := by decide +kernel
theorem dX9_laws_10 : decode cX9_laws 10 = .ok (.ireturn, 1) := by decide +kernel
theorem dX9_laws_11 : decode cX9_laws 11 = .ok (.iconst 2, 1) := by decide +kernel
theorem dX9_laws_12 : decode cX9_laws 12 = .ok (.istore_n 2, 1) := by decide +kernel
theorem dX9_laws_13 : decode cX9_laws 13 = .ok (.aload_n 0, 1) := by decide +kernel
theorem dX9_laws_14 : decode cX9_laws 14 = .ok (.iload_n 2, 1) := by decide +kernel
theorem dX9_laws_15 : decode cX9_laws 15 = .ok (.iload_n 1, 1) := by decide +kernel
theorem dX9_laws_16 : decode cX9_laws 16 = .ok (.invokevirtual 313, 3) := by decide +kernel
theorem dX9_laws_19 : decode cX9_laws 19 = .ok (.istore_n 3, 1) := by decide +kernel
theorem dX9_laws_20 : decode cX9_laws 20 = .ok (.iconst 3, 1) := by decide +kernel
theorem dX9_laws_21 : decode cX9_laws 21 = .ok (.istore 4, 2) := by decide +kernel
theorem dX9_laws_23 : decode cX9_laws 23 = .ok (.iload 4, 2) := by decide +kernel
theorem dX9_laws_25 : decode cX9_laws 25 = .ok (.iconst 4, 1) := by decide +kernel
theorem dX9_laws_26 : decode cX9_laws 26 = .ok (.if_icmp .gt 30, 3) := by decide +kernel
theorem dX9_laws_29 : decode cX9_laws 29 = .ok (.aload_n 0, 1) := by decide +kernel
theorem dX9_laws_30 : decode cX9_laws 30 = .ok (.iload 4, 2) := by decide +kernel
theorem dX9_laws_32 : decode cX9_laws 32 = .ok (.iload_n 1, 1) := by decide +kernel
theorem dX9_laws_33 : decode cX9_laws 33 = .ok (.invokevirtual 313, 3) := by decide +kernel
theorem dX9_laws_36 : decode cX9_laws 36 = .ok (.istore 5, 2) := by decide +kernel
theorem dX9_laws_38 : decode cX9_laws 38 = .ok (.iload 5, 2) := by decide +kernel
theorem dX9_laws_40 : decode cX9_laws 40 = .ok (.iload_n 3, 1) := by decide +kernel
theorem dX9_laws_41 : decode cX9_laws 41 = .ok (.if_icmp .ge 9, 3) := by decide +kernel
theorem dX9_laws_44 : decode cX9_laws 44 = .ok (.iload 5, 2) := by decide +kernel
theorem dX9_laws_46 : decode cX9_laws 46 = .ok (.istore_n 3, 1) := by decide +kernel
theorem dX9_laws_47 : decode cX9_laws 47 = .ok (.iload 4, 2) := by decide +kernel
theorem dX9_laws_49 : decode cX9_laws 49 = .ok (.istore_n 2, 1) := by decide +kernel
theorem dX9_laws_50 : decode cX9_laws 50 = .ok (.iinc 4 1, 3) := by decide +kernel
theorem dX9_laws_53 : decode cX9_laws 53 = .ok (.goto (-30), 3) := by decide +kernel
theorem dX9_laws_56 : decode cX9_laws 56 = .ok (.iload_n 2, 1) := by decide +kernel
theorem dX9_laws_57 : decode cX9_laws 57 = .ok (.ireturn, 1) := by decide +kernel
theorem dX9_spreadByTies_0 : decode cX9_spreadByTies 0 = .ok (.aload_n 0, 1) := by decide +kernel
theorem dX9_spreadByTies_1 : decode cX9_spreadByTies 1 = .ok (.invokevirtual 202, 3) := by decide +kernel
theorem dX9_spreadByTies_4 : decode cX9_spreadByTies 4 = .ok (.astore_n 3, 1) := by decide +kernel
theorem dX9_spreadByTies_5 : decode cX9_spreadByTies 5 = .ok (.aload_n 3, 1) := by decide +kernel
theorem dX9_spreadByTies_6 : decode cX9_spreadByTies 6 = .ok (.getfield 154, 3) := by decide +kernel
theorem dX9_spreadByTies_9 : decode cX9_spreadByTies 9 = .ok (.iload_n 1, 1) := by decide +kernel
theorem dX9_spreadByTies_10 : decode cX9_spreadByTies 10 = .ok (.putfield 304, 3) := by decide +kernel
theorem dX9_spreadByTies_13 : decode cX9_spreadByTies 13 = .ok (.iconst 0, 1) := by decide +kernel
theorem dX9_spreadByTies_14 : decode cX9_spreadByTies 14 = .ok (.istore 4, 2) := by decide +kernel
theorem dX9_spreadByTies_16 : decode cX9_spreadByTies 16 = .ok (.iload 4, 2) := by decide +kernel
theorem dX9_spreadByTies_18 : decode cX9_spreadByTies 18 = .ok (.iload_n 2, 1) := by decide +kernel
theorem dX9_spreadByTies_19 : decode cX9_spreadByTies 19 = .ok (.if_icmp .ge 18, 3) := by decide +kernel
theorem dX9_spreadByTies_22 : decode cX9_spreadByTies 22 = .ok (.aload_n 0, 1) := by decide +kernel
theorem dX9_spreadByTies_23 : decode cX9_spreadByTies 23 = .ok (.getfield 57, 3) := by decide +kernel
theorem dX9_spreadByTies_26 : decode cX9_spreadByTies 26 = .ok (.aload_n 3, 1) := by decide +kernel
theorem dX9_spreadByTies_27 : decode cX9_spreadByTies 27 = .ok (.iconst 1, 1) := by decide +kernel
theorem dX9_spreadByTies_28 : decode cX9_spreadByTies 28 = .ok (.invokevirtual 218, 3) := by decide +kernel
theorem dX9_spreadByTies_31 : decode cX9_spreadByTies 31 = .ok (.iinc 4 1, 3) := by decide +kernel
theorem dX9_spreadByTies_34 : decode cX9_spreadByTies 34 = .ok (.goto (-18), 3) := by decide +kernel
theorem dX9_spreadByTies_37 : decode cX9_spreadByTies 37 = .ok (.aload_n 3, 1) := by decide +kernel
theorem dX9_spreadByTies_38 : decode cX9_spreadByTies 38 = .ok (.invokevirtual 292, 3) := by decide +kernel
theorem dX9_spreadByTies_41 : decode cX9_spreadByTies 41 = .ok (.ireturn, 1) := by decide +kernel
theorem dX9_leaves_0 : decode cX9_leaves 0 = .ok (.aload_n 0, 1) := by decide +kernel
theorem dX9_leaves_1 : decode cX9_leaves 1 = .ok (.iload_n 1, 1) := by decide +kernel
theorem dX9_leaves_2 : decode cX9_leaves 2 = .ok (.iload_n 2, 1) := by decide +kernel
theorem dX9_leaves_3 : decode cX9_leaves 3 = .ok (.invokevirtual 141, 3) := by decide +kernel
theorem dX9_leaves_6 : decode cX9_leaves 6 = .ok (.ifCond .ne 6, 3) := by decide +kernel
theorem dX9_leaves_9 : decode cX9_leaves 9 = .ok (.bipush (-2), 2) := by decide +kernel
theorem dX9_leaves_11 : decode cX9_leaves 11 = .ok (.ireturn, 1) := by decide +kernel
theorem dX9_leaves_12 : decode cX9_leaves 12 = .ok (.aload_n 0, 1) := by decide +kernel
theorem dX9_leaves_13 : decode cX9_leaves 13 = .ok (.invokevirtual 202, 3) := by decide +kernel
theorem dX9_leaves_16 : decode cX9_leaves 16 = .ok (.astore_n 3, 1) := by decide +kernel
theorem dX9_leaves_17 : decode cX9_leaves 17 = .ok (.aload_n 0, 1) := by decide +kernel
theorem dX9_leaves_18 : decode cX9_leaves 18 = .ok (.getfield 19, 3) := by decide +kernel
theorem dX9_leaves_21 : decode cX9_leaves 21 = .ok (.getfield 110, 3) := by decide +kernel
theorem dX9_leaves_24 : decode cX9_leaves 24 = .ok (.iload_n 1, 1) := by decide +kernel
theorem dX9_leaves_25 : decode cX9_leaves 25 = .ok (.aaload, 1) := by decide +kernel
theorem dX9_leaves_26 : decode cX9_leaves 26 = .ok (.getfield 114, 3) := by decide +kernel
theorem dX9_leaves_29 : decode cX9_leaves 29 = .ok (.aload_n 0, 1) := by decide +kernel
theorem dX9_leaves_30 : decode cX9_leaves 30 = .ok (.getfield 19, 3) := by decide +kernel
theorem dX9_leaves_33 : decode cX9_leaves 33 = .ok (.getfield 110, 3) := by decide +kernel
theorem dX9_leaves_36 : decode cX9_leaves 36 = .ok (.iload_n 2, 1) := by decide +kernel
theorem dX9_leaves_37 : decode cX9_leaves 37 = .ok (.aaload, 1) := by decide +kernel
theorem dX9_leaves_38 : decode cX9_leaves 38 = .ok (.getfield 114, 3) := by decide +kernel
theorem dX9_leaves_41 : decode cX9_leaves 41 = .ok (.invokestatic 269, 3) := by decide +kernel
theorem dX9_leaves_44 : decode cX9_leaves 44 = .ok (.istore 4, 2) := by decide +kernel
theorem dX9_leaves_46 : decode cX9_leaves 46 = .ok (.aload_n 3, 1) := by decide +kernel
theorem dX9_leaves_47 : decode cX9_leaves 47 = .ok (.getfield 110, 3) := by decide +kernel
theorem dX9_leaves_50 : decode cX9_leaves 50 = .ok (.iload_n 1, 1) := by decide +kernel
theorem dX9_leaves_51 : decode cX9_leaves 51 = .ok (.aaload, 1) := by decide +kernel
theorem dX9_leaves_52 : decode cX9_leaves 52 = .ok (.iload 4, 2) := by decide +kernel
theorem dX9_leaves_54 : decode cX9_leaves 54 = .ok (.putfield 114, 3) := by decide +kernel
theorem dX9_leaves_57 : decode cX9_leaves 57 = .ok (.aload_n 3, 1) := by decide +kernel
theorem dX9_leaves_58 : decode cX9_leaves 58 = .ok (.getfield 110, 3) := by decide +kernel
theorem dX9_leaves_61 : decode cX9_leaves 61 = .ok (.iload_n 2, 1) := by decide +kernel
theorem dX9_leaves_62 : decode cX9_leaves 62 = .ok (.aaload, 1) := by decide +kernel
theorem dX9_leaves_63 : decode cX9_leaves 63 = .ok (.iload 4, 2) := by decide +kernel
theorem dX9_leaves_65 : decode cX9_leaves 65 = .ok (.putfield 114, 3) := by decide +kernel
theorem dX9_leaves_68 : decode cX9_leaves 68 = .ok (.aload_n 0, 1) := by decide +kernel
theorem dX9_leaves_69 : decode cX9_leaves 69 = .ok (.getfield 50, 3) := by decide +kernel
theorem dX9_leaves_72 : decode cX9_leaves 72 = .ok (.aload_n 3, 1) := by decide +kernel
theorem dX9_leaves_73 : decode cX9_leaves 73 = .ok (.iload_n 1, 1) := by decide +kernel
theorem dX9_leaves_74 : decode cX9_leaves 74 = .ok (.invokevirtual 261, 3) := by decide +kernel
theorem dX9_leaves_77 : decode cX9_leaves 77 = .ok (.ifCond .eq 7, 3) := by decide +kernel
theorem dX9_leaves_80 : decode cX9_leaves 80 = .ok (.iconst 1, 1) := by decide +kernel
theorem dX9_leaves_81 : decode cX9_leaves 81 = .ok (.goto 4, 3) := by decide +kernel
theorem dX9_leaves_84 : decode cX9_leaves 84 = .ok (.iconst 0, 1) := by decide +kernel
theorem dX9_leaves_85 : decode cX9_leaves 85 = .ok (.istore 5, 2) := by decide +kernel
theorem dX9_leaves_87 : decode cX9_leaves 87 = .ok (.aload_n 0, 1) := by decide +kernel
theorem dX9_leaves_88 : decode cX9_leaves 88 = .ok (.getfield 50, 3) := by decide +kernel
theorem dX9_leaves_91 : decode cX9_leaves 91 = .ok (.aload_n 3, 1) := by decide +kernel
theorem dX9_leaves_92 : decode cX9_leaves 92 = .ok (.iload_n 2, 1) := by decide +kernel
theorem dX9_leaves_93 : decode cX9_leaves 93 = .ok (.invokevirtual 261, 3) := by decide +kernel
theorem dX9_leaves_96 : decode cX9_leaves 96 = .ok (.ifCond .eq 10, 3) := by decide +kernel
theorem dX9_leaves_99 : decode cX9_leaves 99 = .ok (.iload 5, 2) := by decide +kernel
theorem dX9_leaves_101 : decode cX9_leaves 101 = .ok (.iconst 2, 1) := by decide +kernel
theorem dX9_leaves_102 : decode cX9_leaves 102 = .ok (.iadd, 1) := by decide +kernel
theorem dX9_leaves_103 : decode cX9_leaves 103 = .ok (.goto 5, 3) := by decide +kernel
theorem dX9_leaves_106 : decode cX9_leaves 106 = .ok (.iload 5, 2) := by decide +kernel
theorem dX9_leaves_108 : decode cX9_leaves 108 = .ok (.ireturn, 1) := by decide +kernel
theorem dX9_breaks_0 : decode cX9_breaks 0 = .ok (.aload_n 0, 1) := by decide +kernel
theorem dX9_breaks_1 : decode cX9_breaks 1 = .ok (.iload_n 1, 1) := by decide +kernel
theorem dX9_breaks_2 : decode cX9_breaks 2 = .ok (.iload_n 2, 1) := by decide +kernel
theorem dX9_breaks_3 : decode cX9_breaks 3 = .ok (.invokevirtual 141, 3) := by decide +kernel
theorem dX9_breaks_6 : decode cX9_breaks 6 = .ok (.ifCond .eq 12, 3) := by decide +kernel
theorem dX9_breaks_9 : decode cX9_breaks 9 = .ok (.aload_n 0, 1) := by decide +kernel
theorem dX9_breaks_10 : decode cX9_breaks 10 = .ok (.iload_n 1, 1) := by decide +kernel
theorem dX9_breaks_11 : decode cX9_breaks 11 = .ok (.iload_n 2, 1) := by decide +kernel
theorem dX9_breaks_12 : decode cX9_breaks 12 = .ok (.invokevirtual 316, 3) := by decide +kernel
theorem dX9_breaks_15 : decode cX9_breaks 15 = .ok (.goto 5, 3) := by decide +kernel
theorem dX9_breaks_18 : decode cX9_breaks 18 = .ok (.bipush (-2), 2) := by decide +kernel
theorem dX9_breaks_20 : decode cX9_breaks 20 = .ok (.ireturn, 1) := by decide +kernel
theorem dX9_leastBreaking_0 : decode cX9_leastBreaking 0 = .ok (.iconst 0, 1) := by decide +kernel
theorem dX9_leastBreaking_1 : decode cX9_leastBreaking 1 = .ok (.istore_n 3, 1) := by decide +kernel
theorem dX9_leastBreaking_2 : decode cX9_leastBreaking 2 = .ok (.iload_n 3, 1) := by decide +kernel
theorem dX9_leastBreaking_3 : decode cX9_leastBreaking 3 = .ok (.aload_n 0, 1) := by decide +kernel
theorem dX9_leastBreaking_4 : decode cX9_leastBreaking 4 = .ok (.getfield 19, 3) := by decide +kernel
theorem dX9_leastBreaking_7 : decode cX9_leastBreaking 7 = .ok (.getfield 110, 3) := by decide +kernel
theorem dX9_leastBreaking_10 : decode cX9_leastBreaking 10 = .ok (.iload_n 1, 1) := by decide +kernel
theorem dX9_leastBreaking_11 : decode cX9_leastBreaking 11 = .ok (.aaload, 1) := by decide +kernel
theorem dX9_leastBreaking_12 : decode cX9_leastBreaking 12 = .ok (.getfield 114, 3) := by decide +kernel
theorem dX9_leastBreaking_15 : decode cX9_leastBreaking 15 = .ok (.if_icmp .gt 29, 3) := by decide +kernel
theorem dX9_leastBreaking_18 : decode cX9_leastBreaking 18 = .ok (.aload_n 0, 1) := by decide +kernel
theorem dX9_leastBreaking_19 : decode cX9_leastBreaking 19 = .ok (.iload_n 1, 1) := by decide +kernel
theorem dX9_leastBreaking_20 : decode cX9_leastBreaking 20 = .ok (.iload_n 2, 1) := by decide +kernel
theorem dX9_leastBreaking_21 : decode cX9_leastBreaking 21 = .ok (.iload_n 3, 1) := by decide +kernel
theorem dX9_leastBreaking_22 : decode cX9_leastBreaking 22 = .ok (.invokevirtual 254, 3) := by decide +kernel
theorem dX9_leastBreaking_25 : decode cX9_leastBreaking 25 = .ok (.aload_n 0, 1) := by decide +kernel
theorem dX9_leastBreaking_26 : decode cX9_leastBreaking 26 = .ok (.getfield 43, 3) := by decide +kernel
theorem dX9_leastBreaking_29 : decode cX9_leastBreaking 29 = .ok (.iload_n 2, 1) := by decide +kernel
theorem dX9_leastBreaking_30 : decode cX9_leastBreaking 30 = .ok (.invokevirtual 171, 3) := by decide +kernel
theorem dX9_leastBreaking_33 : decode cX9_leastBreaking 33 = .ok (.ifCond .le 5, 3) := by decide +kernel
theorem dX9_leastBreaking_36 : decode cX9_leastBreaking 36 = .ok (.iload_n 3, 1) := by decide +kernel
theorem dX9_leastBreaking_37 : decode cX9_leastBreaking 37 = .ok (.ireturn, 1) := by decide +kernel
theorem dX9_leastBreaking_38 : decode cX9_leastBreaking 38 = .ok (.iinc 3 1, 3) := by decide +kernel
theorem dX9_leastBreaking_41 : decode cX9_leastBreaking 41 = .ok (.goto (-39), 3) := by decide +kernel
theorem dX9_leastBreaking_44 : decode cX9_leastBreaking 44 = .ok (.iconst (-1), 1) := by decide +kernel
theorem dX9_leastBreaking_45 : decode cX9_leastBreaking 45 = .ok (.ireturn, 1) := by decide +kernel
theorem dX9_third_0 : decode cX9_third 0 = .ok (.aload_n 0, 1) := by decide +kernel
theorem dX9_third_1 : decode cX9_third 1 = .ok (.iload_n 1, 1) := by decide +kernel
theorem dX9_third_2 : decode cX9_third 2 = .ok (.i2l, 1) := by decide +kernel
theorem dX9_third_3 : decode cX9_third 3 = .ok (.invokevirtual 100, 3) := by decide +kernel
theorem dX9_third_6 : decode cX9_third 6 = .ok (.ifCond .ne 6, 3) := by decide +kernel
theorem dX9_third_9 : decode cX9_third 9 = .ok (.bipush (-2), 2) := by decide +kernel
theorem dX9_third_11 : decode cX9_third 11 = .ok (.ireturn, 1) := by decide +kernel
theorem dX9_third_12 : decode cX9_third 12 = .ok (.iconst (-1), 1) := by decide +kernel
theorem dX9_third_13 : decode cX9_third 13 = .ok (.istore_n 2, 1) := by decide +kernel
theorem dX9_third_14 : decode cX9_third 14 = .ok (.iconst 0, 1) := by decide +kernel
theorem dX9_third_15 : decode cX9_third 15 = .ok (.istore_n 3, 1) := by decide +kernel
theorem dX9_third_16 : decode cX9_third 16 = .ok (.iload_n 3, 1) := by decide +kernel
theorem dX9_third_17 : decode cX9_third 17 = .ok (.aload_n 0, 1) := by decide +kernel
theorem dX9_third_18 : decode cX9_third 18 = .ok (.getfield 19, 3) := by decide +kernel
theorem dX9_third_21 : decode cX9_third 21 = .ok (.getfield 97, 3) := by decide +kernel
theorem dX9_third_24 : decode cX9_third 24 = .ok (.if_icmp .ge 46, 3) := by decide +kernel
theorem dX9_third_27 : decode cX9_third 27 = .ok (.iload_n 3, 1) := by decide +kernel
theorem dX9_third_28 : decode cX9_third 28 = .ok (.iload_n 1, 1) := by decide +kernel
theorem dX9_third_29 : decode cX9_third 29 = .ok (.if_icmp .ne 7, 3) := by decide +kernel
theorem dX9_third_32 : decode cX9_third 32 = .ok (.iconst (-1), 1) := by decide +kernel
theorem dX9_third_33 : decode cX9_third 33 = .ok (.goto 9, 3) := by decide +kernel
theorem dX9_third_36 : decode cX9_third 36 = .ok (.aload_n 0, 1) := by decide +kernel
theorem dX9_third_37 : decode cX9_third 37 = .ok (.iload_n 1, 1) := by decide +kernel
theorem dX9_third_38 : decode cX9_third 38 = .ok (.iload_n 3, 1) := by decide +kernel
theorem dX9_third_39 : decode cX9_third 39 = .ok (.invokevirtual 316, 3) := by decide +kernel
theorem dX9_third_42 : decode cX9_third 42 = .ok (.istore 4, 2) := by decide +kernel
theorem dX9_third_44 : decode cX9_third 44 = .ok (.iload 4, 2) := by decide +kernel
theorem dX9_third_46 : decode cX9_third 46 = .ok (.iconst (-1), 1) := by decide +kernel
theorem dX9_third_47 : decode cX9_third 47 = .ok (.if_icmp .eq 17, 3) := by decide +kernel
theorem dX9_third_50 : decode cX9_third 50 = .ok (.iload_n 2, 1) := by decide +kernel
theorem dX9_third_51 : decode cX9_third 51 = .ok (.iconst (-1), 1) := by decide +kernel
theorem dX9_third_52 : decode cX9_third 52 = .ok (.if_icmp .eq 9, 3) := by decide +kernel
theorem dX9_third_55 : decode cX9_third 55 = .ok (.iload 4, 2) := by decide +kernel
theorem dX9_third_57 : decode cX9_third 57 = .ok (.iload_n 2, 1) := by decide +kernel
theorem dX9_third_58 : decode cX9_third 58 = .ok (.if_icmp .ge 6, 3) := by decide +kernel
theorem dX9_third_61 : decode cX9_third 61 = .ok (.iload 4, 2) := by decide +kernel
theorem dX9_third_63 : decode cX9_third 63 = .ok (.istore_n 2, 1) := by decide +kernel
theorem dX9_third_64 : decode cX9_third 64 = .ok (.iinc 3 1, 3) := by decide +kernel
theorem dX9_third_67 : decode cX9_third 67 = .ok (.goto (-51), 3) := by decide +kernel
theorem dX9_third_70 : decode cX9_third 70 = .ok (.iload_n 2, 1) := by decide +kernel
theorem dX9_third_71 : decode cX9_third 71 = .ok (.ireturn, 1) := by decide +kernel
theorem dX9_trueWorth_0 : decode cX9_trueWorth 0 = .ok (.aload_n 0, 1) := by decide +kernel
theorem dX9_trueWorth_1 : decode cX9_trueWorth 1 = .ok (.getfield 50, 3) := by decide +kernel
theorem dX9_trueWorth_4 : decode cX9_trueWorth 4 = .ok (.aload_n 0, 1) := by decide +kernel
theorem dX9_trueWorth_5 : decode cX9_trueWorth 5 = .ok (.getfield 19, 3) := by decide +kernel
theorem dX9_trueWorth_8 : decode cX9_trueWorth 8 = .ok (.iload_n 1, 1) := by decide +kernel
theorem dX9_trueWorth_9 : decode cX9_trueWorth 9 = .ok (.iload_n 2, 1) := by decide +kernel
theorem dX9_trueWorth_10 : decode cX9_trueWorth 10 = .ok (.iconst 1, 1) := by decide +kernel
theorem dX9_trueWorth_11 : decode cX9_trueWorth 11 = .ok (.invokevirtual 224, 3) := by decide +kernel
theorem dX9_trueWorth_14 : decode cX9_trueWorth 14 = .ok (.aload_n 0, 1) := by decide +kernel
theorem dX9_trueWorth_15 : decode cX9_trueWorth 15 = .ok (.getfield 50, 3) := by decide +kernel
theorem dX9_trueWorth_18 : decode cX9_trueWorth 18 = .ok (.aload_n 0, 1) := by decide +kernel
theorem dX9_trueWorth_19 : decode cX9_trueWorth 19 = .ok (.getfield 19, 3) := by decide +kernel
theorem dX9_trueWorth_22 : decode cX9_trueWorth 22 = .ok (.iconst 1, 1) := by decide +kernel
theorem dX9_trueWorth_23 : decode cX9_trueWorth 23 = .ok (.invokevirtual 232, 3) := by decide +kernel
theorem dX9_trueWorth_26 : decode cX9_trueWorth 26 = .ok (.aload_n 0, 1) := by decide +kernel
theorem dX9_trueWorth_27 : decode cX9_trueWorth 27 = .ok (.getfield 50, 3) := by decide +kernel
theorem dX9_trueWorth_30 : decode cX9_trueWorth 30 = .ok (.aload_n 0, 1) := by decide +kernel
theorem dX9_trueWorth_31 : decode cX9_trueWorth 31 = .ok (.getfield 19, 3) := by decide +kernel
theorem dX9_trueWorth_34 : decode cX9_trueWorth 34 = .ok (.iconst 0, 1) := by decide +kernel
theorem dX9_trueWorth_35 : decode cX9_trueWorth 35 = .ok (.invokevirtual 232, 3) := by decide +kernel
theorem dX9_trueWorth_38 : decode cX9_trueWorth 38 = .ok (.aload_n 0, 1) := by decide +kernel
theorem dX9_trueWorth_39 : decode cX9_trueWorth 39 = .ok (.getfield 50, 3) := by decide +kernel
theorem dX9_trueWorth_42 : decode cX9_trueWorth 42 = .ok (.aload_n 0, 1) := by decide +kernel
theorem dX9_trueWorth_43 : decode cX9_trueWorth 43 = .ok (.getfield 19, 3) := by decide +kernel
theorem dX9_trueWorth_46 : decode cX9_trueWorth 46 = .ok (.iload_n 1, 1) := by decide +kernel
theorem dX9_trueWorth_47 : decode cX9_trueWorth 47 = .ok (.sipush 255, 3) := by decide +kernel
theorem dX9_trueWorth_50 : decode cX9_trueWorth 50 = .ok (.iconst 1, 1) := by decide +kernel
theorem dX9_trueWorth_51 : decode cX9_trueWorth 51 = .ok (.invokevirtual 224, 3) := by decide +kernel
theorem dX9_trueWorth_54 : decode cX9_trueWorth 54 = .ok (.aload_n 0, 1) := by decide +kernel
theorem dX9_trueWorth_55 : decode cX9_trueWorth 55 = .ok (.getfield 50, 3) := by decide +kernel
theorem dX9_trueWorth_58 : decode cX9_trueWorth 58 = .ok (.aload_n 0, 1) := by decide +kernel
theorem dX9_trueWorth_59 : decode cX9_trueWorth 59 = .ok (.getfield 19, 3) := by decide +kernel
theorem dX9_trueWorth_62 : decode cX9_trueWorth 62 = .ok (.aload_n 0, 1) := by decide +kernel
theorem dX9_trueWorth_63 : decode cX9_trueWorth 63 = .ok (.getfield 50, 3) := by decide +kernel
theorem dX9_trueWorth_66 : decode cX9_trueWorth 66 = .ok (.getfield 239, 3) := by decide +kernel
theorem dX9_trueWorth_69 : decode cX9_trueWorth 69 = .ok (.aload_n 0, 1) := by decide +kernel
theorem dX9_trueWorth_70 : decode cX9_trueWorth 70 = .ok (.getfield 50, 3) := by decide +kernel
theorem dX9_trueWorth_73 : decode cX9_trueWorth 73 = .ok (.getfield 242, 3) := by decide +kernel
theorem dX9_trueWorth_76 : decode cX9_trueWorth 76 = .ok (.aload_n 0, 1) := by decide +kernel
theorem dX9_trueWorth_77 : decode cX9_trueWorth 77 = .ok (.getfield 50, 3) := by decide +kernel
theorem dX9_trueWorth_80 : decode cX9_trueWorth 80 = .ok (.getfield 245, 3) := by decide +kernel
theorem dX9_trueWorth_83 : decode cX9_trueWorth 83 = .ok (.aload_n 0, 1) := by decide +kernel
theorem dX9_trueWorth_84 : decode cX9_trueWorth 84 = .ok (.getfield 50, 3) := by decide +kernel
theorem dX9_trueWorth_87 : decode cX9_trueWorth 87 = .ok (.getfield 248, 3) := by decide +kernel
theorem dX9_trueWorth_90 : decode cX9_trueWorth 90 = .ok (.invokevirtual 228, 3) := by decide +kernel
theorem dX9_trueWorth_93 : decode cX9_trueWorth 93 = .ok (.ireturn, 1) := by decide +kernel
theorem dX9_know_0 : decode cX9_know 0 = .ok (.aload_n 0, 1) := by decide +kernel
theorem dX9_know_1 : decode cX9_know 1 = .ok (.iload_n 1, 1) := by decide +kernel
theorem dX9_know_2 : decode cX9_know 2 = .ok (.i2l, 1) := by decide +kernel
theorem dX9_know_3 : decode cX9_know 3 = .ok (.invokevirtual 100, 3) := by decide +kernel
theorem dX9_know_6 : decode cX9_know 6 = .ok (.ifCond .eq 21, 3) := by decide +kernel
theorem dX9_know_9 : decode cX9_know 9 = .ok (.aload_n 0, 1) := by decide +kernel
theorem dX9_know_10 : decode cX9_know 10 = .ok (.iload_n 1, 1) := by decide +kernel
theorem dX9_know_11 : decode cX9_know 11 = .ok (.sipush 255, 3) := by decide +kernel
theorem dX9_know_14 : decode cX9_know 14 = .ok (.invokevirtual 319, 3) := by decide +kernel
theorem dX9_know_17 : decode cX9_know 17 = .ok (.aload_n 0, 1) := by decide +kernel
theorem dX9_know_18 : decode cX9_know 18 = .ok (.iload_n 1, 1) := by decide +kernel
theorem dX9_know_19 : decode cX9_know 19 = .ok (.iconst 0, 1) := by decide +kernel
theorem dX9_know_20 : decode cX9_know 20 = .ok (.invokevirtual 319, 3) := by decide +kernel
theorem dX9_know_23 : decode cX9_know 23 = .ok (.isub, 1) := by decide +kernel
theorem dX9_know_24 : decode cX9_know 24 = .ok (.goto 5, 3) := by decide +kernel
theorem dX9_know_27 : decode cX9_know 27 = .ok (.ldc 223, 2) := by decide +kernel
theorem dX9_know_29 : decode cX9_know 29 = .ok (.ireturn, 1) := by decide +kernel
theorem dX9_knows_0 : decode cX9_knows 0 = .ok (.aload_n 0, 1) := by decide +kernel
theorem dX9_knows_1 : decode cX9_knows 1 = .ok (.iload_n 1, 1) := by decide +kernel
theorem dX9_knows_2 : decode cX9_knows 2 = .ok (.iload_n 2, 1) := by decide +kernel
theorem dX9_knows_3 : decode cX9_knows 3 = .ok (.invokevirtual 141, 3) := by decide +kernel
theorem dX9_knows_6 : decode cX9_knows 6 = .ok (.ifCond .eq 21, 3) := by decide +kernel
theorem dX9_knows_9 : decode cX9_knows 9 = .ok (.aload_n 0, 1) := by decide +kernel
theorem dX9_knows_10 : decode cX9_knows 10 = .ok (.iload_n 1, 1) := by decide +kernel
theorem dX9_knows_11 : decode cX9_knows 11 = .ok (.iconst 1, 1) := by decide +kernel
theorem dX9_knows_12 : decode cX9_knows 12 = .ok (.iload_n 2, 1) := by decide +kernel
theorem dX9_knows_13 : decode cX9_knows 13 = .ok (.ishl, 1) := by decide +kernel
theorem dX9_knows_14 : decode cX9_knows 14 = .ok (.invokevirtual 319, 3) := by decide +kernel
theorem dX9_knows_17 : decode cX9_knows 17 = .ok (.aload_n 0, 1) := by decide +kernel
theorem dX9_knows_18 : decode cX9_knows 18 = .ok (.iload_n 1, 1) := by decide +kernel
theorem dX9_knows_19 : decode cX9_knows 19 = .ok (.iconst 0, 1) := by decide +kernel
theorem dX9_knows_20 : decode cX9_knows 20 = .ok (.invokevirtual 319, 3) := by decide +kernel
theorem dX9_knows_23 : decode cX9_knows 23 = .ok (.isub, 1) := by decide +kernel
theorem dX9_knows_24 : decode cX9_knows 24 = .ok (.goto 5, 3) := by decide +kernel
theorem dX9_knows_27 : decode cX9_knows 27 = .ok (.ldc 223, 2) := by decide +kernel
theorem dX9_knows_29 : decode cX9_knows 29 = .ok (.ireturn, 1) := by decide +kernel
theorem dX9_lend_0 : decode cX9_lend 0 = .ok (.aload_n 0, 1) := by decide +kernel
theorem dX9_lend_1 : decode cX9_lend 1 = .ok (.iload_n 1, 1) := by decide +kernel
theorem dX9_lend_2 : decode cX9_lend 2 = .ok (.iload_n 2, 1) := by decide +kernel
theorem dX9_lend_3 : decode cX9_lend 3 = .ok (.invokevirtual 141, 3) := by decide +kernel
theorem dX9_lend_6 : decode cX9_lend 6 = .ok (.ifCond .eq 14, 3) := by decide +kernel
theorem dX9_lend_9 : decode cX9_lend 9 = .ok (.iload_n 3, 1) := by decide +kernel
theorem dX9_lend_10 : decode cX9_lend 10 = .ok (.iconst 1, 1) := by decide +kernel
theorem dX9_lend_11 : decode cX9_lend 11 = .ok (.if_icmp .lt 9, 3) := by decide +kernel
theorem dX9_lend_14 : decode cX9_lend 14 = .ok (.iload_n 3, 1) := by decide +kernel
theorem dX9_lend_15 : decode cX9_lend 15 = .ok (.bipush 30, 2) := by decide +kernel
theorem dX9_lend_17 : decode cX9_lend 17 = .ok (.if_icmp .le 6, 3) := by decide +kernel
theorem dX9_lend_20 : decode cX9_lend 20 = .ok (.bipush (-2), 2) := by decide +kernel
theorem dX9_lend_22 : decode cX9_lend 22 = .ok (.ireturn, 1) := by decide +kernel
theorem dX9_lend_23 : decode cX9_lend 23 = .ok (.aload_n 0, 1) := by decide +kernel
theorem dX9_lend_24 : decode cX9_lend 24 = .ok (.getfield 19, 3) := by decide +kernel
theorem dX9_lend_27 : decode cX9_lend 27 = .ok (.getfield 322, 3) := by decide +kernel
theorem dX9_lend_30 : decode cX9_lend 30 = .ok (.getfield 326, 3) := by decide +kernel
theorem dX9_lend_33 : decode cX9_lend 33 = .ok (.istore 4, 2) := by decide +kernel
theorem dX9_lend_35 : decode cX9_lend 35 = .ok (.iload 4, 2) := by decide +kernel
theorem dX9_lend_37 : decode cX9_lend 37 = .ok (.bipush 6, 2) := by decide +kernel
theorem dX9_lend_39 : decode cX9_lend 39 = .ok (.if_icmp .lt 6, 3) := by decide +kernel
theorem dX9_lend_42 : decode cX9_lend 42 = .ok (.bipush (-3), 2) := by decide +kernel
theorem dX9_lend_44 : decode cX9_lend 44 = .ok (.ireturn, 1) := by decide +kernel
theorem dX9_lend_45 : decode cX9_lend 45 = .ok (.aload_n 0, 1) := by decide +kernel
theorem dX9_lend_46 : decode cX9_lend 46 = .ok (.iload_n 1, 1) := by decide +kernel
theorem dX9_lend_47 : decode cX9_lend 47 = .ok (.iload_n 2, 1) := by decide +kernel
theorem dX9_lend_48 : decode cX9_lend 48 = .ok (.iload_n 3, 1) := by decide +kernel
theorem dX9_lend_49 : decode cX9_lend 49 = .ok (.invokevirtual 331, 3) := by decide +kernel
theorem dX9_lend_52 : decode cX9_lend 52 = .ok (.ifCond .ne 6, 3) := by decide +kernel
theorem dX9_lend_55 : decode cX9_lend 55 = .ok (.bipush (-5), 2) := by decide +kernel
theorem dX9_lend_57 : decode cX9_lend 57 = .ok (.ireturn, 1) := by decide +kernel
theorem dX9_lend_58 : decode cX9_lend 58 = .ok (.aload_n 0, 1) := by decide +kernel
theorem dX9_lend_59 : decode cX9_lend 59 = .ok (.getfield 19, 3) := by decide +kernel
theorem dX9_lend_62 : decode cX9_lend 62 = .ok (.iload_n 1, 1) := by decide +kernel
theorem dX9_lend_63 : decode cX9_lend 63 = .ok (.iload_n 2, 1) := by decide +kernel
theorem dX9_lend_64 : decode cX9_lend 64 = .ok (.iload_n 3, 1) := by decide +kernel
theorem dX9_lend_65 : decode cX9_lend 65 = .ok (.invokevirtual 335, 3) := by decide +kernel
theorem dX9_lend_68 : decode cX9_lend 68 = .ok (.aload_n 0, 1) := by decide +kernel
theorem dX9_lend_69 : decode cX9_lend 69 = .ok (.getfield 19, 3) := by decide +kernel
theorem dX9_lend_72 : decode cX9_lend 72 = .ok (.getfield 322, 3) := by decide +kernel
theorem dX9_lend_75 : decode cX9_lend 75 = .ok (.getfield 336, 3) := by decide +kernel
theorem dX9_lend_78 : decode cX9_lend 78 = .ok (.iload 4, 2) := by decide +kernel
theorem dX9_lend_80 : decode cX9_lend 80 = .ok (.iload_n 1, 1) := by decide +kernel
theorem dX9_lend_81 : decode cX9_lend 81 = .ok (.iastore, 1) := by decide +kernel
theorem dX9_lend_82 : decode cX9_lend 82 = .ok (.aload_n 0, 1) := by decide +kernel
theorem dX9_lend_83 : decode cX9_lend 83 = .ok (.getfield 19, 3) := by decide +kernel
theorem dX9_lend_86 : decode cX9_lend 86 = .ok (.getfield 322, 3) := by decide +kernel
theorem dX9_lend_89 : decode cX9_lend 89 = .ok (.getfield 339, 3) := by decide +kernel
theorem dX9_lend_92 : decode cX9_lend 92 = .ok (.iload 4, 2) := by decide +kernel
theorem dX9_lend_94 : decode cX9_lend 94 = .ok (.iload_n 2, 1) := by decide +kernel
theorem dX9_lend_95 : decode cX9_lend 95 = .ok (.iastore, 1) := by decide +kernel
theorem dX9_lend_96 : decode cX9_lend 96 = .ok (.aload_n 0, 1) := by decide +kernel
theorem dX9_lend_97 : decode cX9_lend 97 = .ok (.getfield 19, 3) := by decide +kernel
theorem dX9_lend_100 : decode cX9_lend 100 = .ok (.getfield 322, 3) := by decide +kernel
theorem dX9_lend_103 : decode cX9_lend 103 = .ok (.getfield 342, 3) := by decide +kernel
theorem dX9_lend_106 : decode cX9_lend 106 = .ok (.iload 4, 2) := by decide +kernel
theorem dX9_lend_108 : decode cX9_lend 108 = .ok (.iload_n 3, 1) := by decide +kernel
theorem dX9_lend_109 : decode cX9_lend 109 = .ok (.iastore, 1) := by decide +kernel
theorem dX9_lend_110 : decode cX9_lend 110 = .ok (.aload_n 0, 1) := by decide +kernel
theorem dX9_lend_111 : decode cX9_lend 111 = .ok (.getfield 19, 3) := by decide +kernel
theorem dX9_lend_114 : decode cX9_lend 114 = .ok (.getfield 322, 3) := by decide +kernel
theorem dX9_lend_117 : decode cX9_lend 117 = .ok (.iload 4, 2) := by decide +kernel
theorem dX9_lend_119 : decode cX9_lend 119 = .ok (.iconst 1, 1) := by decide +kernel
theorem dX9_lend_120 : decode cX9_lend 120 = .ok (.iadd, 1) := by decide +kernel
theorem dX9_lend_121 : decode cX9_lend 121 = .ok (.putfield 326, 3) := by decide +kernel
theorem dX9_lend_124 : decode cX9_lend 124 = .ok (.aload_n 0, 1) := by decide +kernel
theorem dX9_lend_125 : decode cX9_lend 125 = .ok (.getfield 19, 3) := by decide +kernel
theorem dX9_lend_128 : decode cX9_lend 128 = .ok (.getfield 322, 3) := by decide +kernel
theorem dX9_lend_131 : decode cX9_lend 131 = .ok (.getfield 326, 3) := by decide +kernel
theorem dX9_lend_134 : decode cX9_lend 134 = .ok (.ireturn, 1) := by decide +kernel
theorem dX9_canLend_0 : decode cX9_canLend 0 = .ok (.iload_n 3, 1) := by decide +kernel
theorem dX9_canLend_1 : decode cX9_canLend 1 = .ok (.aload_n 0, 1) := by decide +kernel
theorem dX9_canLend_2 : decode cX9_canLend 2 = .ok (.getfield 19, 3) := by decide +kernel
theorem dX9_canLend_5 : decode cX9_canLend 5 = .ok (.getfield 110, 3) := by decide +kernel
theorem dX9_canLend_8 : decode cX9_canLend 8 = .ok (.iload_n 1, 1) := by decide +kernel
theorem dX9_canLend_9 : decode cX9_canLend 9 = .ok (.aaload, 1) := by decide +kernel
theorem dX9_canLend_10 : decode cX9_canLend 10 = .ok (.getfield 114, 3) := by decide +kernel
theorem dX9_canLend_13 : decode cX9_canLend 13 = .ok (.if_icmp .gt 31, 3) := by decide +kernel
theorem dX9_canLend_16 : decode cX9_canLend 16 = .ok (.aload_n 0, 1) := by decide +kernel
theorem dX9_canLend_17 : decode cX9_canLend 17 = .ok (.getfield 19, 3) := by decide +kernel
theorem dX9_canLend_20 : decode cX9_canLend 20 = .ok (.getfield 110, 3) := by decide +kernel
theorem dX9_canLend_23 : decode cX9_canLend 23 = .ok (.iload_n 2, 1) := by decide +kernel
theorem dX9_canLend_24 : decode cX9_canLend 24 = .ok (.aaload, 1) := by decide +kernel
theorem dX9_canLend_25 : decode cX9_canLend 25 = .ok (.getfield 114, 3) := by decide +kernel
theorem dX9_canLend_28 : decode cX9_canLend 28 = .ok (.iload_n 3, 1) := by decide +kernel
theorem dX9_canLend_29 : decode cX9_canLend 29 = .ok (.iadd, 1) := by decide +kernel
theorem dX9_canLend_30 : decode cX9_canLend 30 = .ok (.aload_n 0, 1) := by decide +kernel
theorem dX9_canLend_31 : decode cX9_canLend 31 = .ok (.getfield 19, 3) := by decide +kernel
theorem dX9_canLend_34 : decode cX9_canLend 34 = .ok (.getfield 128, 3) := by decide +kernel
theorem dX9_canLend_37 : decode cX9_canLend 37 = .ok (.if_icmp .gt 7, 3) := by decide +kernel
theorem dX9_canLend_40 : decode cX9_canLend 40 = .ok (.iconst 1, 1) := by decide +kernel
theorem dX9_canLend_41 : decode cX9_canLend 41 = .ok (.goto 4, 3) := by decide +kernel
theorem dX9_canLend_44 : decode cX9_canLend 44 = .ok (.iconst 0, 1) := by decide +kernel
theorem dX9_canLend_45 : decode cX9_canLend 45 = .ok (.ireturn, 1) := by decide +kernel
theorem dX9_round_0 : decode cX9_round 0 = .ok (.aload_n 0, 1) := by decide +kernel
theorem dX9_round_1 : decode cX9_round 1 = .ok (.iload_n 1, 1) := by decide +kernel
theorem dX9_round_2 : decode cX9_round 2 = .ok (.iload_n 2, 1) := by decide +kernel
theorem dX9_round_3 : decode cX9_round 3 = .ok (.invokevirtual 141, 3) := by decide +kernel
theorem dX9_round_6 : decode cX9_round 6 = .ok (.ifCond .ne 6, 3) := by decide +kernel
theorem dX9_round_9 : decode cX9_round 9 = .ok (.bipush (-2), 2) := by decide +kernel
theorem dX9_round_11 : decode cX9_round 11 = .ok (.ireturn, 1) := by decide +kernel
theorem dX9_round_12 : decode cX9_round 12 = .ok (.iconst 1, 1) := by decide +kernel
theorem dX9_round_13 : decode cX9_round 13 = .ok (.istore_n 3, 1) := by decide +kernel
theorem dX9_round_14 : decode cX9_round 14 = .ok (.iload_n 3, 1) := by decide +kernel
theorem dX9_round_15 : decode cX9_round 15 = .ok (.bipush 30, 2) := by decide +kernel
theorem dX9_round_17 : decode cX9_round 17 = .ok (.if_icmp .gt 50, 3) := by decide +kernel
theorem dX9_round_20 : decode cX9_round 20 = .ok (.aload_n 0, 1) := by decide +kernel
theorem dX9_round_21 : decode cX9_round 21 = .ok (.iload_n 1, 1) := by decide +kernel
theorem dX9_round_22 : decode cX9_round 22 = .ok (.iload_n 2, 1) := by decide +kernel
theorem dX9_round_23 : decode cX9_round 23 = .ok (.iload_n 3, 1) := by decide +kernel
theorem dX9_round_24 : decode cX9_round 24 = .ok (.invokevirtual 331, 3) := by decide +kernel
theorem dX9_round_27 : decode cX9_round 27 = .ok (.ifCond .eq 40, 3) := by decide +kernel
theorem dX9_round_30 : decode cX9_round 30 = .ok (.aload_n 0, 1) := by decide +kernel
theorem dX9_round_31 : decode cX9_round 31 = .ok (.iload_n 1, 1) := by decide +kernel
theorem dX9_round_32 : decode cX9_round 32 = .ok (.iload_n 2, 1) := by decide +kernel
theorem dX9_round_33 : decode cX9_round 33 = .ok (.iload_n 3, 1) := by decide +kernel
theorem dX9_round_34 : decode cX9_round 34 = .ok (.invokevirtual 254, 3) := by decide +kernel
theorem dX9_round_37 : decode cX9_round 37 = .ok (.aload_n 0, 1) := by decide +kernel
theorem dX9_round_38 : decode cX9_round 38 = .ok (.getfield 43, 3) := by decide +kernel
theorem dX9_round_41 : decode cX9_round 41 = .ok (.iload_n 1, 1) := by decide +kernel
theorem dX9_round_42 : decode cX9_round 42 = .ok (.invokevirtual 171, 3) := by decide +kernel
theorem dX9_round_45 : decode cX9_round 45 = .ok (.ifCond .ne 16, 3) := by decide +kernel
theorem dX9_round_48 : decode cX9_round 48 = .ok (.aload_n 0, 1) := by decide +kernel
theorem dX9_round_49 : decode cX9_round 49 = .ok (.getfield 43, 3) := by decide +kernel
theorem dX9_round_52 : decode cX9_round 52 = .ok (.iload_n 2, 1) := by decide +kernel
theorem dX9_round_53 : decode cX9_round 53 = .ok (.invokevirtual 171, 3) := by decide +kernel
theorem dX9_round_56 : decode cX9_round 56 = .ok (.ifCond .ne 5, 3) := by decide +kernel
theorem dX9_round_59 : decode cX9_round 59 = .ok (.iload_n 3, 1) := by decide +kernel
