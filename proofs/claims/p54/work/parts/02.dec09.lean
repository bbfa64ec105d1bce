theorem dX9_goodByRow_43 : decode cX9_goodByRow 43 = .ok (.ifCond .ne 34, 3) := by decide +kernel
theorem dX9_goodByRow_46 : decode cX9_goodByRow 46 = .ok (.aload 8, 2) := by decide +kernel
theorem dX9_goodByRow_48 : decode cX9_goodByRow 48 = .ok (.aload 6, 2) := by decide +kernel
theorem dX9_goodByRow_50 : decode cX9_goodByRow 50 = .ok (.invokevirtual 84, 3) := by decide +kernel
theorem dX9_goodByRow_53 : decode cX9_goodByRow 53 = .ok (.aload_n 0, 1) := by decide +kernel
theorem dX9_goodByRow_54 : decode cX9_goodByRow 54 = .ok (.aload 8, 2) := by decide +kernel
theorem dX9_goodByRow_56 : decode cX9_goodByRow 56 = .ok (.iload_n 1, 1) := by decide +kernel
theorem dX9_goodByRow_57 : decode cX9_goodByRow 57 = .ok (.iload_n 3, 1) := by decide +kernel
theorem dX9_goodByRow_58 : decode cX9_goodByRow 58 = .ok (.iload 5, 2) := by decide +kernel
theorem dX9_goodByRow_60 : decode cX9_goodByRow 60 = .ok (.idiv, 1) := by decide +kernel
theorem dX9_goodByRow_61 : decode cX9_goodByRow 61 = .ok (.bipush 6, 2) := by decide +kernel
theorem dX9_goodByRow_63 : decode cX9_goodByRow 63 = .ok (.irem, 1) := by decide +kernel
theorem dX9_goodByRow_64 : decode cX9_goodByRow 64 = .ok (.invokevirtual 278, 3) := by decide +kernel
theorem dX9_goodByRow_67 : decode cX9_goodByRow 67 = .ok (.aload_n 0, 1) := by decide +kernel
theorem dX9_goodByRow_68 : decode cX9_goodByRow 68 = .ok (.getfield 57, 3) := by decide +kernel
theorem dX9_goodByRow_71 : decode cX9_goodByRow 71 = .ok (.aload 8, 2) := by decide +kernel
theorem dX9_goodByRow_73 : decode cX9_goodByRow 73 = .ok (.iconst 1, 1) := by decide +kernel
theorem dX9_goodByRow_74 : decode cX9_goodByRow 74 = .ok (.invokevirtual 218, 3) := by decide +kernel
theorem dX9_goodByRow_77 : decode cX9_goodByRow 77 = .ok (.aload 8, 2) := by decide +kernel
theorem dX9_goodByRow_79 : decode cX9_goodByRow 79 = .ok (.astore 6, 2) := by decide +kernel
theorem dX9_goodByRow_81 : decode cX9_goodByRow 81 = .ok (.iinc 7 1, 3) := by decide +kernel
theorem dX9_goodByRow_84 : decode cX9_goodByRow 84 = .ok (.goto (-71), 3) := by decide +kernel
theorem dX9_goodByRow_87 : decode cX9_goodByRow 87 = .ok (.aload 6, 2) := by decide +kernel
theorem dX9_goodByRow_89 : decode cX9_goodByRow 89 = .ok (.getfield 110, 3) := by decide +kernel
theorem dX9_goodByRow_92 : decode cX9_goodByRow 92 = .ok (.iload_n 1, 1) := by decide +kernel
theorem dX9_goodByRow_93 : decode cX9_goodByRow 93 = .ok (.aaload, 1) := by decide +kernel
theorem dX9_goodByRow_94 : decode cX9_goodByRow 94 = .ok (.getfield 125, 3) := by decide +kernel
theorem dX9_goodByRow_97 : decode cX9_goodByRow 97 = .ok (.aload_n 0, 1) := by decide +kernel
theorem dX9_goodByRow_98 : decode cX9_goodByRow 98 = .ok (.getfield 19, 3) := by decide +kernel
theorem dX9_goodByRow_101 : decode cX9_goodByRow 101 = .ok (.getfield 110, 3) := by decide +kernel
theorem dX9_goodByRow_104 : decode cX9_goodByRow 104 = .ok (.iload_n 1, 1) := by decide +kernel
theorem dX9_goodByRow_105 : decode cX9_goodByRow 105 = .ok (.aaload, 1) := by decide +kernel
theorem dX9_goodByRow_106 : decode cX9_goodByRow 106 = .ok (.getfield 125, 3) := by decide +kernel
theorem dX9_goodByRow_109 : decode cX9_goodByRow 109 = .ok (.isub, 1) := by decide +kernel
theorem dX9_goodByRow_110 : decode cX9_goodByRow 110 = .ok (.ireturn, 1) := by decide +kernel
theorem dX9_notePlan_0 : decode cX9_notePlan 0 = .ok (.iload_n 2, 1) := by decide +kernel
theorem dX9_notePlan_1 : decode cX9_notePlan 1 = .ok (.istore_n 3, 1) := by decide +kernel
theorem dX9_notePlan_2 : decode cX9_notePlan 2 = .ok (.iload_n 1, 1) := by decide +kernel
theorem dX9_notePlan_3 : decode cX9_notePlan 3 = .ok (.istore 4, 2) := by decide +kernel
theorem dX9_notePlan_5 : decode cX9_notePlan 5 = .ok (.iload 4, 2) := by decide +kernel
theorem dX9_notePlan_7 : decode cX9_notePlan 7 = .ok (.iconst 1, 1) := by decide +kernel
theorem dX9_notePlan_8 : decode cX9_notePlan 8 = .ok (.if_icmp .lt 25, 3) := by decide +kernel
theorem dX9_notePlan_11 : decode cX9_notePlan 11 = .ok (.aload_n 0, 1) := by decide +kernel
theorem dX9_notePlan_12 : decode cX9_notePlan 12 = .ok (.getfield 65, 3) := by decide +kernel
theorem dX9_notePlan_15 : decode cX9_notePlan 15 = .ok (.iload 4, 2) := by decide +kernel
theorem dX9_notePlan_17 : decode cX9_notePlan 17 = .ok (.iload_n 3, 1) := by decide +kernel
theorem dX9_notePlan_18 : decode cX9_notePlan 18 = .ok (.bipush 6, 2) := by decide +kernel
theorem dX9_notePlan_20 : decode cX9_notePlan 20 = .ok (.irem, 1) := by decide +kernel
theorem dX9_notePlan_21 : decode cX9_notePlan 21 = .ok (.iastore, 1) := by decide +kernel
theorem dX9_notePlan_22 : decode cX9_notePlan 22 = .ok (.iload_n 3, 1) := by decide +kernel
theorem dX9_notePlan_23 : decode cX9_notePlan 23 = .ok (.bipush 6, 2) := by decide +kernel
theorem dX9_notePlan_25 : decode cX9_notePlan 25 = .ok (.idiv, 1) := by decide +kernel
theorem dX9_notePlan_26 : decode cX9_notePlan 26 = .ok (.istore_n 3, 1) := by decide +kernel
theorem dX9_notePlan_27 : decode cX9_notePlan 27 = .ok (.iinc 4 (-1), 3) := by decide +kernel
theorem dX9_notePlan_30 : decode cX9_notePlan 30 = .ok (.goto (-25), 3) := by decide +kernel
theorem dX9_notePlan_33 : decode cX9_notePlan 33 = .ok (.return_, 1) := by decide +kernel
theorem dX9_open_0 : decode cX9_open 0 = .ok (.aload_n 0, 1) := by decide +kernel
theorem dX9_open_1 : decode cX9_open 1 = .ok (.getfield 19, 3) := by decide +kernel
theorem dX9_open_4 : decode cX9_open 4 = .ok (.getfield 97, 3) := by decide +kernel
theorem dX9_open_7 : decode cX9_open 7 = .ok (.ifCond .ne 6, 3) := by decide +kernel
theorem dX9_open_10 : decode cX9_open 10 = .ok (.bipush (-2), 2) := by decide +kernel
theorem dX9_open_12 : decode cX9_open 12 = .ok (.ireturn, 1) := by decide +kernel
theorem dX9_open_13 : decode cX9_open 13 = .ok (.aload_n 0, 1) := by decide +kernel
theorem dX9_open_14 : decode cX9_open 14 = .ok (.getfield 19, 3) := by decide +kernel
theorem dX9_open_17 : decode cX9_open 17 = .ok (.getfield 374, 3) := by decide +kernel
theorem dX9_open_20 : decode cX9_open 20 = .ok (.aload_n 0, 1) := by decide +kernel
theorem dX9_open_21 : decode cX9_open 21 = .ok (.getfield 19, 3) := by decide +kernel
theorem dX9_open_24 : decode cX9_open 24 = .ok (.getfield 97, 3) := by decide +kernel
theorem dX9_open_27 : decode cX9_open 27 = .ok (.idiv, 1) := by decide +kernel
theorem dX9_open_28 : decode cX9_open 28 = .ok (.istore_n 1, 1) := by decide +kernel
theorem dX9_open_29 : decode cX9_open 29 = .ok (.iconst 0, 1) := by decide +kernel
theorem dX9_open_30 : decode cX9_open 30 = .ok (.istore_n 2, 1) := by decide +kernel
theorem dX9_open_31 : decode cX9_open 31 = .ok (.iload_n 2, 1) := by decide +kernel
theorem dX9_open_32 : decode cX9_open 32 = .ok (.aload_n 0, 1) := by decide +kernel
theorem dX9_open_33 : decode cX9_open 33 = .ok (.getfield 19, 3) := by decide +kernel
theorem dX9_open_36 : decode cX9_open 36 = .ok (.getfield 97, 3) := by decide +kernel
theorem dX9_open_39 : decode cX9_open 39 = .ok (.if_icmp .ge 18, 3) := by decide +kernel
theorem dX9_open_42 : decode cX9_open 42 = .ok (.aload_n 0, 1) := by decide +kernel
theorem dX9_open_43 : decode cX9_open 43 = .ok (.getfield 19, 3) := by decide +kernel
theorem dX9_open_46 : decode cX9_open 46 = .ok (.iload_n 2, 1) := by decide +kernel
theorem dX9_open_47 : decode cX9_open 47 = .ok (.iload_n 1, 1) := by decide +kernel
theorem dX9_open_48 : decode cX9_open 48 = .ok (.invokevirtual 377, 3) := by decide +kernel
theorem dX9_open_51 : decode cX9_open 51 = .ok (.iinc 2 1, 3) := by decide +kernel
theorem dX9_open_54 : decode cX9_open 54 = .ok (.goto (-23), 3) := by decide +kernel
theorem dX9_open_57 : decode cX9_open 57 = .ok (.aload_n 0, 1) := by decide +kernel
theorem dX9_open_58 : decode cX9_open 58 = .ok (.getfield 19, 3) := by decide +kernel
theorem dX9_open_61 : decode cX9_open 61 = .ok (.dup, 1) := by decide +kernel
theorem dX9_open_62 : decode cX9_open 62 = .ok (.getfield 374, 3) := by decide +kernel
theorem dX9_open_65 : decode cX9_open 65 = .ok (.iload_n 1, 1) := by decide +kernel
theorem dX9_open_66 : decode cX9_open 66 = .ok (.aload_n 0, 1) := by decide +kernel
theorem dX9_open_67 : decode cX9_open 67 = .ok (.getfield 19, 3) := by decide +kernel
theorem dX9_open_70 : decode cX9_open 70 = .ok (.getfield 97, 3) := by decide +kernel
theorem dX9_open_73 : decode cX9_open 73 = .ok (.imul, 1) := by decide +kernel
theorem dX9_open_74 : decode cX9_open 74 = .ok (.isub, 1) := by decide +kernel
theorem dX9_open_75 : decode cX9_open 75 = .ok (.putfield 374, 3) := by decide +kernel
theorem dX9_open_78 : decode cX9_open 78 = .ok (.iload_n 1, 1) := by decide +kernel
theorem dX9_open_79 : decode cX9_open 79 = .ok (.ireturn, 1) := by decide +kernel
theorem dX9_fillDuel_0 : decode cX9_fillDuel 0 = .ok (.iconst 0, 1) := by decide +kernel
theorem dX9_fillDuel_1 : decode cX9_fillDuel 1 = .ok (.istore_n 3, 1) := by decide +kernel
theorem dX9_fillDuel_2 : decode cX9_fillDuel 2 = .ok (.iload_n 3, 1) := by decide +kernel
theorem dX9_fillDuel_3 : decode cX9_fillDuel 3 = .ok (.iconst 4, 1) := by decide +kernel
theorem dX9_fillDuel_4 : decode cX9_fillDuel 4 = .ok (.if_icmp .ge 120, 3) := by decide +kernel
theorem dX9_fillDuel_7 : decode cX9_fillDuel 7 = .ok (.aload_n 0, 1) := by decide +kernel
theorem dX9_fillDuel_8 : decode cX9_fillDuel 8 = .ok (.getfield 43, 3) := by decide +kernel
theorem dX9_fillDuel_11 : decode cX9_fillDuel 11 = .ok (.aload_n 0, 1) := by decide +kernel
theorem dX9_fillDuel_12 : decode cX9_fillDuel 12 = .ok (.getfield 19, 3) := by decide +kernel
theorem dX9_fillDuel_15 : decode cX9_fillDuel 15 = .ok (.invokevirtual 151, 3) := by decide +kernel
theorem dX9_fillDuel_18 : decode cX9_fillDuel 18 = .ok (.iload_n 3, 1) := by decide +kernel
theorem dX9_fillDuel_19 : decode cX9_fillDuel 19 = .ok (.iconst 1, 1) := by decide +kernel
theorem dX9_fillDuel_20 : decode cX9_fillDuel 20 = .ok (.iand, 1) := by decide +kernel
theorem dX9_fillDuel_21 : decode cX9_fillDuel 21 = .ok (.aload_n 0, 1) := by decide +kernel
theorem dX9_fillDuel_22 : decode cX9_fillDuel 22 = .ok (.getfield 43, 3) := by decide +kernel
theorem dX9_fillDuel_25 : decode cX9_fillDuel 25 = .ok (.getfield 380, 3) := by decide +kernel
theorem dX9_fillDuel_28 : decode cX9_fillDuel 28 = .ok (.iload_n 1, 1) := by decide +kernel
theorem dX9_fillDuel_29 : decode cX9_fillDuel 29 = .ok (.iaload, 1) := by decide +kernel
theorem dX9_fillDuel_30 : decode cX9_fillDuel 30 = .ok (.invokestatic 135, 3) := by decide +kernel
theorem dX9_fillDuel_33 : decode cX9_fillDuel 33 = .ok (.istore 4, 2) := by decide +kernel
theorem dX9_fillDuel_35 : decode cX9_fillDuel 35 = .ok (.iload_n 3, 1) := by decide +kernel
theorem dX9_fillDuel_36 : decode cX9_fillDuel 36 = .ok (.iconst 1, 1) := by decide +kernel
theorem dX9_fillDuel_37 : decode cX9_fillDuel 37 = .ok (.ishr, 1) := by decide +kernel
theorem dX9_fillDuel_38 : decode cX9_fillDuel 38 = .ok (.aload_n 0, 1) := by decide +kernel
theorem dX9_fillDuel_39 : decode cX9_fillDuel 39 = .ok (.getfield 43, 3) := by decide +kernel
theorem dX9_fillDuel_42 : decode cX9_fillDuel 42 = .ok (.getfield 380, 3) := by decide +kernel
theorem dX9_fillDuel_45 : decode cX9_fillDuel 45 = .ok (.iload_n 2, 1) := by decide +kernel
theorem dX9_fillDuel_46 : decode cX9_fillDuel 46 = .ok (.iaload, 1) := by decide +kernel
theorem dX9_fillDuel_47 : decode cX9_fillDuel 47 = .ok (.invokestatic 135, 3) := by decide +kernel
theorem dX9_fillDuel_50 : decode cX9_fillDuel 50 = .ok (.istore 5, 2) := by decide +kernel
theorem dX9_fillDuel_52 : decode cX9_fillDuel 52 = .ok (.aload_n 0, 1) := by decide +kernel
theorem dX9_fillDuel_53 : decode cX9_fillDuel 53 = .ok (.getfield 43, 3) := by decide +kernel
theorem dX9_fillDuel_56 : decode cX9_fillDuel 56 = .ok (.iload_n 1, 1) := by decide +kernel
theorem dX9_fillDuel_57 : decode cX9_fillDuel 57 = .ok (.iload 4, 2) := by decide +kernel
theorem dX9_fillDuel_59 : decode cX9_fillDuel 59 = .ok (.invokevirtual 382, 3) := by decide +kernel
theorem dX9_fillDuel_62 : decode cX9_fillDuel 62 = .ok (.aload_n 0, 1) := by decide +kernel
theorem dX9_fillDuel_63 : decode cX9_fillDuel 63 = .ok (.getfield 43, 3) := by decide +kernel
theorem dX9_fillDuel_66 : decode cX9_fillDuel 66 = .ok (.iload_n 2, 1) := by decide +kernel
theorem dX9_fillDuel_67 : decode cX9_fillDuel 67 = .ok (.iload 5, 2) := by decide +kernel
theorem dX9_fillDuel_69 : decode cX9_fillDuel 69 = .ok (.invokevirtual 382, 3) := by decide +kernel
theorem dX9_fillDuel_72 : decode cX9_fillDuel 72 = .ok (.aload_n 0, 1) := by decide +kernel
theorem dX9_fillDuel_73 : decode cX9_fillDuel 73 = .ok (.getfield 43, 3) := by decide +kernel
theorem dX9_fillDuel_76 : decode cX9_fillDuel 76 = .ok (.aload_n 0, 1) := by decide +kernel
theorem dX9_fillDuel_77 : decode cX9_fillDuel 77 = .ok (.getfield 19, 3) := by decide +kernel
theorem dX9_fillDuel_80 : decode cX9_fillDuel 80 = .ok (.getfield 154, 3) := by decide +kernel
theorem dX9_fillDuel_83 : decode cX9_fillDuel 83 = .ok (.invokevirtual 385, 3) := by decide +kernel
theorem dX9_fillDuel_86 : decode cX9_fillDuel 86 = .ok (.aload_n 0, 1) := by decide +kernel
theorem dX9_fillDuel_87 : decode cX9_fillDuel 87 = .ok (.getfield 61, 3) := by decide +kernel
theorem dX9_fillDuel_90 : decode cX9_fillDuel 90 = .ok (.iload_n 3, 1) := by decide +kernel
theorem dX9_fillDuel_91 : decode cX9_fillDuel 91 = .ok (.iconst 2, 1) := by decide +kernel
theorem dX9_fillDuel_92 : decode cX9_fillDuel 92 = .ok (.imul, 1) := by decide +kernel
theorem dX9_fillDuel_93 : decode cX9_fillDuel 93 = .ok (.aload_n 0, 1) := by decide +kernel
theorem dX9_fillDuel_94 : decode cX9_fillDuel 94 = .ok (.iload_n 1, 1) := by decide +kernel
theorem dX9_fillDuel_95 : decode cX9_fillDuel 95 = .ok (.iload 4, 2) := by decide +kernel
theorem dX9_fillDuel_97 : decode cX9_fillDuel 97 = .ok (.invokevirtual 388, 3) := by decide +kernel
theorem dX9_fillDuel_100 : decode cX9_fillDuel 100 = .ok (.iastore, 1) := by decide +kernel
theorem dX9_fillDuel_101 : decode cX9_fillDuel 101 = .ok (.aload_n 0, 1) := by decide +kernel
theorem dX9_fillDuel_102 : decode cX9_fillDuel 102 = .ok (.getfield 61, 3) := by decide +kernel
theorem dX9_fillDuel_105 : decode cX9_fillDuel 105 = .ok (.iload_n 3, 1) := by decide +kernel
theorem dX9_fillDuel_106 : decode cX9_fillDuel 106 = .ok (.iconst 2, 1) := by decide +kernel
theorem dX9_fillDuel_107 : decode cX9_fillDuel 107 = .ok (.imul, 1) := by decide +kernel
theorem dX9_fillDuel_108 : decode cX9_fillDuel 108 = .ok (.iconst 1, 1) := by decide +kernel
theorem dX9_fillDuel_109 : decode cX9_fillDuel 109 = .ok (.iadd, 1) := by decide +kernel
theorem dX9_fillDuel_110 : decode cX9_fillDuel 110 = .ok (.aload_n 0, 1) := by decide +kernel
theorem dX9_fillDuel_111 : decode cX9_fillDuel 111 = .ok (.iload_n 2, 1) := by decide +kernel
theorem dX9_fillDuel_112 : decode cX9_fillDuel 112 = .ok (.iload 5, 2) := by decide +kernel
theorem dX9_fillDuel_114 : decode cX9_fillDuel 114 = .ok (.invokevirtual 388, 3) := by decide +kernel
theorem dX9_fillDuel_117 : decode cX9_fillDuel 117 = .ok (.iastore, 1) := by decide +kernel
theorem dX9_fillDuel_118 : decode cX9_fillDuel 118 = .ok (.iinc 3 1, 3) := by decide +kernel
theorem dX9_fillDuel_121 : decode cX9_fillDuel 121 = .ok (.goto (-119), 3) := by decide +kernel
theorem dX9_fillDuel_124 : decode cX9_fillDuel 124 = .ok (.return_, 1) := by decide +kernel
theorem dX9_heldWorth_0 : decode cX9_heldWorth 0 = .ok (.aload_n 0, 1) := by decide +kernel
theorem dX9_heldWorth_1 : decode cX9_heldWorth 1 = .ok (.getfield 19, 3) := by decide +kernel
theorem dX9_heldWorth_4 : decode cX9_heldWorth 4 = .ok (.getfield 110, 3) := by decide +kernel
theorem dX9_heldWorth_7 : decode cX9_heldWorth 7 = .ok (.iload_n 1, 1) := by decide +kernel
theorem dX9_heldWorth_8 : decode cX9_heldWorth 8 = .ok (.aaload, 1) := by decide +kernel
theorem dX9_heldWorth_9 : decode cX9_heldWorth 9 = .ok (.astore_n 3, 1) := by decide +kernel
theorem dX9_heldWorth_10 : decode cX9_heldWorth 10 = .ok (.aload_n 3, 1) := by decide +kernel
theorem dX9_heldWorth_11 : decode cX9_heldWorth 11 = .ok (.getfield 391, 3) := by decide +kernel
theorem dX9_heldWorth_14 : decode cX9_heldWorth 14 = .ok (.aload_n 0, 1) := by decide +kernel
theorem dX9_heldWorth_15 : decode cX9_heldWorth 15 = .ok (.getfield 43, 3) := by decide +kernel
theorem dX9_heldWorth_18 : decode cX9_heldWorth 18 = .ok (.getfield 380, 3) := by decide +kernel
theorem dX9_heldWorth_21 : decode cX9_heldWorth 21 = .ok (.iload_n 1, 1) := by decide +kernel
theorem dX9_heldWorth_22 : decode cX9_heldWorth 22 = .ok (.iaload, 1) := by decide +kernel
theorem dX9_heldWorth_23 : decode cX9_heldWorth 23 = .ok (.imul, 1) := by decide +kernel
theorem dX9_heldWorth_24 : decode cX9_heldWorth 24 = .ok (.aload_n 3, 1) := by decide +kernel
theorem dX9_heldWorth_25 : decode cX9_heldWorth 25 = .ok (.iconst 0, 1) := by decide +kernel
theorem dX9_heldWorth_26 : decode cX9_heldWorth 26 = .ok (.iload_n 2, 1) := by decide +kernel
theorem dX9_heldWorth_27 : decode cX9_heldWorth 27 = .ok (.invokevirtual 195, 3) := by decide +kernel
theorem dX9_heldWorth_30 : decode cX9_heldWorth 30 = .ok (.iadd, 1) := by decide +kernel
theorem dX9_heldWorth_31 : decode cX9_heldWorth 31 = .ok (.ireturn, 1) := by decide +kernel
theorem dX9_duel_0 : decode cX9_duel 0 = .ok (.aload_n 0, 1) := by decide +kernel
theorem dX9_duel_1 : decode cX9_duel 1 = .ok (.iload_n 1, 1) := by decide +kernel
theorem dX9_duel_2 : decode cX9_duel 2 = .ok (.iload_n 2, 1) := by decide +kernel
theorem dX9_duel_3 : decode cX9_duel 3 = .ok (.invokevirtual 141, 3) := by decide +kernel
theorem dX9_duel_6 : decode cX9_duel 6 = .ok (.ifCond .ne 6, 3) := by decide +kernel
theorem dX9_duel_9 : decode cX9_duel 9 = .ok (.bipush (-2), 2) := by decide +kernel
theorem dX9_duel_11 : decode cX9_duel 11 = .ok (.ireturn, 1) := by decide +kernel
theorem dX9_duel_12 : decode cX9_duel 12 = .ok (.aload_n 0, 1) := by decide +kernel
theorem dX9_duel_13 : decode cX9_duel 13 = .ok (.iload_n 1, 1) := by decide +kernel
theorem dX9_duel_14 : decode cX9_duel 14 = .ok (.iload_n 2, 1) := by decide +kernel
theorem dX9_duel_15 : decode cX9_duel 15 = .ok (.invokevirtual 394, 3) := by decide +kernel
theorem dX9_duel_18 : decode cX9_duel 18 = .ok (.iconst 0, 1) := by decide +kernel
theorem dX9_duel_19 : decode cX9_duel 19 = .ok (.istore_n 3, 1) := by decide +kernel
theorem dX9_duel_20 : decode cX9_duel 20 = .ok (.iconst 0, 1) := by decide +kernel
theorem dX9_duel_21 : decode cX9_duel 21 = .ok (.istore 4, 2) := by decide +kernel
theorem dX9_duel_23 : decode cX9_duel 23 = .ok (.iload 4, 2) := by decide +kernel
theorem dX9_duel_25 : decode cX9_duel 25 = .ok (.iconst 4, 1) := by decide +kernel
theorem dX9_duel_26 : decode cX9_duel 26 = .ok (.if_icmp .ge 90, 3) := by decide +kernel
theorem dX9_duel_29 : decode cX9_duel 29 = .ok (.aload_n 0, 1) := by decide +kernel
theorem dX9_duel_30 : decode cX9_duel 30 = .ok (.getfield 61, 3) := by decide +kernel
theorem dX9_duel_33 : decode cX9_duel 33 = .ok (.iload 4, 2) := by decide +kernel
theorem dX9_duel_35 : decode cX9_duel 35 = .ok (.iconst 2, 1) := by decide +kernel
theorem dX9_duel_36 : decode cX9_duel 36 = .ok (.imul, 1) := by decide +kernel
theorem dX9_duel_37 : decode cX9_duel 37 = .ok (.iaload, 1) := by decide +kernel
theorem dX9_duel_38 : decode cX9_duel 38 = .ok (.aload_n 0, 1) := by decide +kernel
theorem dX9_duel_39 : decode cX9_duel 39 = .ok (.getfield 61, 3) := by decide +kernel
theorem dX9_duel_42 : decode cX9_duel 42 = .ok (.iload 4, 2) := by decide +kernel
theorem dX9_duel_44 : decode cX9_duel 44 = .ok (.iconst 1, 1) := by decide +kernel
theorem dX9_duel_45 : decode cX9_duel 45 = .ok (.ixor, 1) := by decide +kernel
theorem dX9_duel_46 : decode cX9_duel 46 = .ok (.iconst 2, 1) := by decide +kernel
theorem dX9_duel_47 : decode cX9_duel 47 = .ok (.imul, 1) := by decide +kernel
theorem dX9_duel_48 : decode cX9_duel 48 = .ok (.iaload, 1) := by decide +kernel
theorem dX9_duel_49 : decode cX9_duel 49 = .ok (.if_icmp .lt 7, 3) := by decide +kernel
theorem dX9_duel_52 : decode cX9_duel 52 = .ok (.iconst 1, 1) := by decide +kernel
theorem dX9_duel_53 : decode cX9_duel 53 = .ok (.goto 4, 3) := by decide +kernel
theorem dX9_duel_56 : decode cX9_duel 56 = .ok (.iconst 0, 1) := by decide +kernel
theorem dX9_duel_57 : decode cX9_duel 57 = .ok (.istore 5, 2) := by decide +kernel
theorem dX9_duel_59 : decode cX9_duel 59 = .ok (.aload_n 0, 1) := by decide +kernel
theorem dX9_duel_60 : decode cX9_duel 60 = .ok (.getfield 61, 3) := by decide +kernel
theorem dX9_duel_63 : decode cX9_duel 63 = .ok (.iload 4, 2) := by decide +kernel
theorem dX9_duel_65 : decode cX9_duel 65 = .ok (.iconst 2, 1) := by decide +kernel
theorem dX9_duel_66 : decode cX9_duel 66 = .ok (.imul, 1) := by decide +kernel
theorem dX9_duel_67 : decode cX9_duel 67 = .ok (.iconst 1, 1) := by decide +kernel
theorem dX9_duel_68 : decode cX9_duel 68 = .ok (.iadd, 1) := by decide +kernel
theorem dX9_duel_69 : decode cX9_duel 69 = .ok (.iaload, 1) := by decide +kernel
theorem dX9_duel_70 : decode cX9_duel 70 = .ok (.aload_n 0, 1) := by decide +kernel
theorem dX9_duel_71 : decode cX9_duel 71 = .ok (.getfield 61, 3) := by decide +kernel
theorem dX9_duel_74 : decode cX9_duel 74 = .ok (.iload 4, 2) := by decide +kernel
theorem dX9_duel_76 : decode cX9_duel 76 = .ok (.iconst 2, 1) := by decide +kernel
theorem dX9_duel_77 : decode cX9_duel 77 = .ok (.ixor, 1) := by decide +kernel
theorem dX9_duel_78 : decode cX9_duel 78 = .ok (.iconst 2, 1) := by decide +kernel
theorem dX9_duel_79 : decode cX9_duel 79 = .ok (.imul, 1) := by decide +kernel
theorem dX9_duel_80 : decode cX9_duel 80 = .ok (.iconst 1, 1) := by decide +kernel
theorem dX9_duel_81 : decode cX9_duel 81 = .ok (.iadd, 1) := by decide +kernel
theorem dX9_duel_82 : decode cX9_duel 82 = .ok (.iaload, 1) := by decide +kernel
theorem dX9_duel_83 : decode cX9_duel 83 = .ok (.if_icmp .lt 7, 3) := by decide +kernel
theorem dX9_duel_86 : decode cX9_duel 86 = .ok (.iconst 1, 1) := by decide +kernel
theorem dX9_duel_87 : decode cX9_duel 87 = .ok (.goto 4, 3) := by decide +kernel
theorem dX9_duel_90 : decode cX9_duel 90 = .ok (.iconst 0, 1) := by decide +kernel
theorem dX9_duel_91 : decode cX9_duel 91 = .ok (.istore 6, 2) := by decide +kernel
theorem dX9_duel_93 : decode cX9_duel 93 = .ok (.iload 5, 2) := by decide +kernel
theorem dX9_duel_95 : decode cX9_duel 95 = .ok (.ifCond .eq 15, 3) := by decide +kernel
theorem dX9_duel_98 : decode cX9_duel 98 = .ok (.iload 6, 2) := by decide +kernel
theorem dX9_duel_100 : decode cX9_duel 100 = .ok (.ifCond .eq 10, 3) := by decide +kernel
theorem dX9_duel_103 : decode cX9_duel 103 = .ok (.iload_n 3, 1) := by decide +kernel
theorem dX9_duel_104 : decode cX9_duel 104 = .ok (.iconst 1, 1) := by decide +kernel
theorem dX9_duel_105 : decode cX9_duel 105 = .ok (.iload 4, 2) := by decide +kernel
theorem dX9_duel_107 : decode cX9_duel 107 = .ok (.ishl, 1) := by decide +kernel
theorem dX9_duel_108 : decode cX9_duel 108 = .ok (.ior, 1) := by decide +kernel
theorem dX9_duel_109 : decode cX9_duel 109 = .ok (.istore_n 3, 1) := by decide +kernel
theorem dX9_duel_110 : decode cX9_duel 110 = .ok (.iinc 4 1, 3) := by decide +kernel
theorem dX9_duel_113 : decode cX9_duel 113 = .ok (.goto (-90), 3) := by decide +kernel
theorem dX9_duel_116 : decode cX9_duel 116 = .ok (.iload_n 3, 1) := by decide +kernel
theorem dX9_duel_117 : decode cX9_duel 117 = .ok (.ireturn, 1) := by decide +kernel
theorem dX9_mixed_0 : decode cX9_mixed 0 = .ok (.aload_n 0, 1) := by decide +kernel
theorem dX9_mixed_1 : decode cX9_mixed 1 = .ok (.iload_n 1, 1) := by decide +kernel
theorem dX9_mixed_2 : decode cX9_mixed 2 = .ok (.iload_n 2, 1) := by decide +kernel
theorem dX9_mixed_3 : decode cX9_mixed 3 = .ok (.invokevirtual 141, 3) := by decide +kernel
theorem dX9_mixed_6 : decode cX9_mixed 6 = .ok (.ifCond .ne 6, 3) := by decide +kernel
theorem dX9_mixed_9 : decode cX9_mixed 9 = .ok (.bipush (-2), 2) := by decide +kernel
theorem dX9_mixed_11 : decode cX9_mixed 11 = .ok (.ireturn, 1) := by decide +kernel
theorem dX9_mixed_12 : decode cX9_mixed 12 = .ok (.aload_n 0, 1) := by decide +kernel
theorem dX9_mixed_13 : decode cX9_mixed 13 = .ok (.iload_n 1, 1) := by decide +kernel
theorem dX9_mixed_14 : decode cX9_mixed 14 = .ok (.iload_n 2, 1) := by decide +kernel
theorem dX9_mixed_15 : decode cX9_mixed 15 = .ok (.invokevirtual 394, 3) := by decide +kernel
theorem dX9_mixed_18 : decode cX9_mixed 18 = .ok (.aload_n 0, 1) := by decide +kernel
theorem dX9_mixed_19 : decode cX9_mixed 19 = .ok (.getfield 61, 3) := by decide +kernel
theorem dX9_mixed_22 : decode cX9_mixed 22 = .ok (.iconst 5, 1) := by decide +kernel
theorem dX9_mixed_23 : decode cX9_mixed 23 = .ok (.iaload, 1) := by decide +kernel
theorem dX9_mixed_24 : decode cX9_mixed 24 = .ok (.aload_n 0, 1) := by decide +kernel
theorem dX9_mixed_25 : decode cX9_mixed 25 = .ok (.getfield 61, 3) := by decide +kernel
theorem dX9_mixed_28 : decode cX9_mixed 28 = .ok (.iconst 1, 1) := by decide +kernel
theorem dX9_mixed_29 : decode cX9_mixed 29 = .ok (.iaload, 1) := by decide +kernel
theorem dX9_mixed_30 : decode cX9_mixed 30 = .ok (.isub, 1) := by decide +kernel
theorem dX9_mixed_31 : decode cX9_mixed 31 = .ok (.istore_n 3, 1) := by decide +kernel
theorem dX9_mixed_32 : decode cX9_mixed 32 = .ok (.iload_n 3, 1) := by decide +kernel
theorem dX9_mixed_33 : decode cX9_mixed 33 = .ok (.aload_n 0, 1) := by decide +kernel
theorem dX9_mixed_34 : decode cX9_mixed 34 = .ok (.getfield 61, 3) := by decide +kernel
theorem dX9_mixed_37 : decode cX9_mixed 37 = .ok (.bipush 7, 2) := by decide +kernel
theorem dX9_mixed_39 : decode cX9_mixed 39 = .ok (.iaload, 1) := by decide +kernel
theorem dX9_mixed_40 : decode cX9_mixed 40 = .ok (.aload_n 0, 1) := by decide +kernel
theorem dX9_mixed_41 : decode cX9_mixed 41 = .ok (.getfield 61, 3) := by decide +kernel
theorem dX9_mixed_44 : decode cX9_mixed 44 = .ok (.iconst 3, 1) := by decide +kernel
theorem dX9_mixed_45 : decode cX9_mixed 45 = .ok (.iaload, 1) := by decide +kernel
theorem dX9_mixed_46 : decode cX9_mixed 46 = .ok (.isub, 1) := by decide +kernel
theorem dX9_mixed_47 : decode cX9_mixed 47 = .ok (.isub, 1) := by decide +kernel
theorem dX9_mixed_48 : decode cX9_mixed 48 = .ok (.istore 4, 2) := by decide +kernel
theorem dX9_mixed_50 : decode cX9_mixed 50 = .ok (.iload 4, 2) := by decide +kernel
theorem dX9_mixed_52 : decode cX9_mixed 52 = .ok (.ifCond .ne 5, 3) := by decide +kernel
theorem dX9_mixed_55 : decode cX9_mixed 55 = .ok (.iconst (-1), 1) := by decide +kernel
theorem dX9_mixed_56 : decode cX9_mixed 56 = .ok (.ireturn, 1) := by decide +kernel
theorem dX9_mixed_57 : decode cX9_mixed 57 = .ok (.sipush 10000, 3) := by decide +kernel
theorem dX9_mixed_60 : decode cX9_mixed 60 = .ok (.iload_n 3, 1) := by decide +kernel
theorem dX9_mixed_61 : decode cX9_mixed 61 = .ok (.imul, 1) := by decide +kernel
theorem dX9_mixed_62 : decode cX9_mixed 62 = .ok (.iload 4, 2) := by decide +kernel
theorem dX9_mixed_64 : decode cX9_mixed 64 = .ok (.idiv, 1) := by decide +kernel
theorem dX9_mixed_65 : decode cX9_mixed 65 = .ok (.istore 5, 2) := by decide +kernel
theorem dX9_mixed_67 : decode cX9_mixed 67 = .ok (.iload 5, 2) := by decide +kernel
theorem dX9_mixed_69 : decode cX9_mixed 69 = .ok (.ifCond .lt 11, 3) := by decide +kernel
theorem dX9_mixed_72 : decode cX9_mixed 72 = .ok (.iload 5, 2) := by decide +kernel
theorem dX9_mixed_74 : decode cX9_mixed 74 = .ok (.sipush 10000, 3) := by decide +kernel
theorem dX9_mixed_77 : decode cX9_mixed 77 = .ok (.if_icmp .le 7, 3) := by decide +kernel
theorem dX9_mixed_80 : decode cX9_mixed 80 = .ok (.iconst (-1), 1) := by decide +kernel
theorem dX9_mixed_81 : decode cX9_mixed 81 = .ok (.goto 5, 3) := by decide +kernel
theorem dX9_mixed_84 : decode cX9_mixed 84 = .ok (.iload 5, 2) := by decide +kernel
theorem dX9_mixed_86 : decode cX9_mixed 86 = .ok (.ireturn, 1) := by decide +kernel
theorem dX9_seed_0 : decode cX9_seed 0 = .ok (.iload_n 1, 1) := by decide +kernel
theorem dX9_seed_1 : decode cX9_seed 1 = .ok (.ifCond .lt 10, 3) := by decide +kernel
theorem dX9_seed_4 : decode cX9_seed 4 = .ok (.iload_n 1, 1) := by decide +kernel
theorem dX9_seed_5 : decode cX9_seed 5 = .ok (.ldc_w 397, 3) := by decide +kernel
theorem dX9_seed_8 : decode cX9_seed 8 = .ok (.if_icmp .le 6, 3) := by decide +kernel
theorem dX9_seed_11 : decode cX9_seed 11 = .ok (.bipush (-2), 2) := by decide +kernel
theorem dX9_seed_13 : decode cX9_seed 13 = .ok (.ireturn, 1) := by decide +kernel
theorem dX9_seed_14 : decode cX9_seed 14 = .ok (.aload_n 0, 1) := by decide +kernel
theorem dX9_seed_15 : decode cX9_seed 15 = .ok (.getfield 19, 3) := by decide +kernel
theorem dX9_seed_18 : decode cX9_seed 18 = .ok (.iload_n 1, 1) := by decide +kernel
theorem dX9_seed_19 : decode cX9_seed 19 = .ok (.i2l, 1) := by decide +kernel
theorem dX9_seed_20 : decode cX9_seed 20 = .ok (.putfield 398, 3) := by decide +kernel
theorem dX9_seed_23 : decode cX9_seed 23 = .ok (.iconst 0, 1) := by decide +kernel
theorem dX9_seed_24 : decode cX9_seed 24 = .ok (.ireturn, 1) := by decide +kernel
theorem dX9_count_0 : decode cX9_count 0 = .ok (.iload_n 1, 1) := by decide +kernel
theorem dX9_count_1 : decode cX9_count 1 = .ok (.tableswitch 194 0 12 #[67, 75, 83, 91, 99, 107, 118, 126, 137, 148, 159, 178, 189], 67) := by decide +kernel
theorem dX9_count_68 : decode cX9_count 68 = .ok (.aload_n 0, 1) := by decide +kernel
theorem dX9_count_69 : decode cX9_count 69 = .ok (.getfield 19, 3) := by decide +kernel
theorem dX9_count_72 : decode cX9_count 72 = .ok (.getfield 128, 3) := by decide +kernel
theorem dX9_count_75 : decode cX9_count 75 = .ok (.ireturn, 1) := by decide +kernel
theorem dX9_count_76 : decode cX9_count 76 = .ok (.aload_n 0, 1) := by decide +kernel
theorem dX9_count_77 : decode cX9_count 77 = .ok (.getfield 19, 3) := by decide +kernel
theorem dX9_count_80 : decode cX9_count 80 = .ok (.getfield 97, 3) := by decide +kernel
theorem dX9_count_83 : decode cX9_count 83 = .ok (.ireturn, 1) := by decide +kernel
theorem dX9_count_84 : decode cX9_count 84 = .ok (.aload_n 0, 1) := by decide +kernel
theorem dX9_count_85 : decode cX9_count 85 = .ok (.getfield 19, 3) := by decide +kernel
theorem dX9_count_88 : decode cX9_count 88 = .ok (.getfield 88, 3) := by decide +kernel
theorem dX9_count_91 : decode cX9_count 91 = .ok (.ireturn, 1) := by decide +kernel
theorem dX9_count_92 : decode cX9_count 92 = .ok (.aload_n 0, 1) := by decide +kernel
theorem dX9_count_93 : decode cX9_count 93 = .ok (.getfield 10, 3) := by decide +kernel
theorem dX9_count_96 : decode cX9_count 96 = .ok (.getfield 69, 3) := by decide +kernel
theorem dX9_count_99 : decode cX9_count 99 = .ok (.ireturn, 1) := by decide +kernel
theorem dX9_count_100 : decode cX9_count 100 = .ok (.aload_n 0, 1) := by decide +kernel
theorem dX9_count_101 : decode cX9_count 101 = .ok (.getfield 19, 3) := by decide +kernel
theorem dX9_count_104 : decode cX9_count 104 = .ok (.getfield 374, 3) := by decide +kernel
theorem dX9_count_107 : decode cX9_count 107 = .ok (.ireturn, 1) := by decide +kernel
theorem dX9_count_108 : decode cX9_count 108 = .ok (.aload_n 0, 1) := by decide +kernel
theorem dX9_count_109 : decode cX9_count 109 = .ok (.getfield 19, 3) := by decide +kernel
theorem dX9_count_112 : decode cX9_count 112 = .ok (.getfield 322, 3) := by decide +kernel
theorem dX9_count_115 : decode cX9_count 115 = .ok (.getfield 326, 3) := by decide +kernel
theorem dX9_count_118 : decode cX9_count 118 = .ok (.ireturn, 1) := by decide +kernel
theorem dX9_count_119 : decode cX9_count 119 = .ok (.aload_n 0, 1) := by decide +kernel
theorem dX9_count_120 : decode cX9_count 120 = .ok (.getfield 19, 3) := by decide +kernel
theorem dX9_count_123 : decode cX9_count 123 = .ok (.getfield 402, 3) := by decide +kernel
theorem dX9_count_126 : decode cX9_count 126 = .ok (.ireturn, 1) := by decide +kernel
theorem dX9_count_127 : decode cX9_count 127 = .ok (.aload_n 0, 1) := by decide +kernel
theorem dX9_count_128 : decode cX9_count 128 = .ok (.getfield 19, 3) := by decide +kernel
theorem dX9_count_131 : decode cX9_count 131 = .ok (.getfield 154, 3) := by decide +kernel
theorem dX9_count_134 : decode cX9_count 134 = .ok (.getfield 299, 3) := by decide +kernel
theorem dX9_count_137 : decode cX9_count 137 = .ok (.ireturn, 1) := by decide +kernel
theorem dX9_count_138 : decode cX9_count 138 = .ok (.aload_n 0, 1) := by decide +kernel
theorem dX9_count_139 : decode cX9_count 139 = .ok (.getfield 19, 3) := by decide +kernel
theorem dX9_count_142 : decode cX9_count 142 = .ok (.getfield 154, 3) := by decide +kernel
theorem dX9_count_145 : decode cX9_count 145 = .ok (.getfield 304, 3) := by decide +kernel
theorem dX9_count_148 : decode cX9_count 148 = .ok (.ireturn, 1) := by decide +kernel
theorem dX9_count_149 : decode cX9_count 149 = .ok (.aload_n 0, 1) := by decide +kernel
theorem dX9_count_150 : decode cX9_count 150 = .ok (.getfield 19, 3) := by decide +kernel
theorem dX9_count_153 : decode cX9_count 153 = .ok (.getfield 154, 3) := by decide +kernel
theorem dX9_count_156 : decode cX9_count 156 = .ok (.getfield 307, 3) := by decide +kernel
theorem dX9_count_159 : decode cX9_count 159 = .ok (.ireturn, 1) := by decide +kernel
theorem dX9_count_160 : decode cX9_count 160 = .ok (.aload_n 0, 1) := by decide +kernel
theorem dX9_count_161 : decode cX9_count 161 = .ok (.getfield 19, 3) := by decide +kernel
theorem dX9_count_164 : decode cX9_count 164 = .ok (.getfield 154, 3) := by decide +kernel
theorem dX9_count_167 : decode cX9_count 167 = .ok (.getfield 310, 3) := by decide +kernel
theorem dX9_count_170 : decode cX9_count 170 = .ok (.ifCond .eq 7, 3) := by decide +kernel
theorem dX9_count_173 : decode cX9_count 173 = .ok (.iconst 1, 1) := by decide +kernel
theorem dX9_count_174 : decode cX9_count 174 = .ok (.goto 4, 3) := by decide +kernel
theorem dX9_count_177 : decode cX9_count 177 = .ok (.iconst 0, 1) := by decide +kernel
theorem dX9_count_178 : decode cX9_count 178 = .ok (.ireturn, 1) := by decide +kernel
theorem dX9_count_179 : decode cX9_count 179 = .ok (.aload_n 0, 1) := by decide +kernel
theorem dX9_count_180 : decode cX9_count 180 = .ok (.getfield 19, 3) := by decide +kernel
theorem dX9_count_183 : decode cX9_count 183 = .ok (.getfield 154, 3) := by decide +kernel
theorem dX9_count_186 : decode cX9_count 186 = .ok (.getfield 352, 3) := by decide +kernel
theorem dX9_count_189 : decode cX9_count 189 = .ok (.ireturn, 1) := by decide +kernel
theorem dX9_count_190 : decode cX9_count 190 = .ok (.aload_n 0, 1) := by decide +kernel
theorem dX9_count_191 : decode cX9_count 191 = .ok (.invokevirtual 405, 3) := by decide +kernel
theorem dX9_count_194 : decode cX9_count 194 = .ok (.ireturn, 1) := by decide +kernel
theorem dX9_count_195 : decode cX9_count 195 = .ok (.iconst (-1), 1) := by decide +kernel
theorem dX9_count_196 : decode cX9_count 196 = .ok (.ireturn, 1) := by decide +kernel
theorem dX9_slotsWithRow_0 : decode cX9_slotsWithRow 0 = .ok (.iconst 0, 1) := by decide +kernel
theorem dX9_slotsWithRow_1 : decode cX9_slotsWithRow 1 = .ok (.istore_n 1, 1) := by decide +kernel
theorem dX9_slotsWithRow_2 : decode cX9_slotsWithRow 2 = .ok (.iconst 0, 1) := by decide +kernel
theorem dX9_slotsWithRow_3 : decode cX9_slotsWithRow 3 = .ok (.istore_n 2, 1) := by decide +kernel
theorem dX9_slotsWithRow_4 : decode cX9_slotsWithRow 4 = .ok (.iload_n 2, 1) := by decide +kernel
theorem dX9_slotsWithRow_5 : decode cX9_slotsWithRow 5 = .ok (.iconst 4, 1) := by decide +kernel
theorem dX9_slotsWithRow_6 : decode cX9_slotsWithRow 6 = .ok (.if_icmp .ge 29, 3) := by decide +kernel
theorem dX9_slotsWithRow_9 : decode cX9_slotsWithRow 9 = .ok (.iload_n 1, 1) := by decide +kernel
theorem dX9_slotsWithRow_10 : decode cX9_slotsWithRow 10 = .ok (.aload_n 0, 1) := by decide +kernel
theorem dX9_slotsWithRow_11 : decode cX9_slotsWithRow 11 = .ok (.getfield 36, 3) := by decide +kernel
theorem dX9_slotsWithRow_14 : decode cX9_slotsWithRow 14 = .ok (.iload_n 2, 1) := by decide +kernel
theorem dX9_slotsWithRow_15 : decode cX9_slotsWithRow 15 = .ok (.aaload, 1) := by decide +kernel
theorem dX9_slotsWithRow_16 : decode cX9_slotsWithRow 16 = .ok (.getfield 198, 3) := by decide +kernel
theorem dX9_slotsWithRow_19 : decode cX9_slotsWithRow 19 = .ok (.ifCond .eq 7, 3) := by decide +kernel
theorem dX9_slotsWithRow_22 : decode cX9_slotsWithRow 22 = .ok (.iconst 1, 1) := by decide +kernel
theorem dX9_slotsWithRow_23 : decode cX9_slotsWithRow 23 = .ok (.goto 4, 3) := by decide +kernel
theorem dX9_slotsWithRow_26 : decode cX9_slotsWithRow 26 = .ok (.iconst 0, 1) := by decide +kernel
theorem dX9_slotsWithRow_27 : decode cX9_slotsWithRow 27 = .ok (.iadd, 1) := by decide +kernel
theorem dX9_slotsWithRow_28 : decode cX9_slotsWithRow 28 = .ok (.istore_n 1, 1) := by decide +kernel
theorem dX9_slotsWithRow_29 : decode cX9_slotsWithRow 29 = .ok (.iinc 2 1, 3) := by decide +kernel
theorem dX9_slotsWithRow_32 : decode cX9_slotsWithRow 32 = .ok (.goto (-28), 3) := by decide +kernel
theorem dX9_slotsWithRow_35 : decode cX9_slotsWithRow 35 = .ok (.iload_n 1, 1) := by decide +kernel
theorem dX9_slotsWithRow_36 : decode cX9_slotsWithRow 36 = .ok (.ireturn, 1) := by decide +kernel
theorem dX9_keep_0 : decode cX9_keep 0 = .ok (.iload_n 1, 1) := by decide +kernel
theorem dX9_keep_1 : decode cX9_keep 1 = .ok (.ifCond .lt 8, 3) := by decide +kernel
theorem dX9_keep_4 : decode cX9_keep 4 = .ok (.iload_n 1, 1) := by decide +kernel
theorem dX9_keep_5 : decode cX9_keep 5 = .ok (.iconst 3, 1) := by decide +kernel
theorem dX9_keep_6 : decode cX9_keep 6 = .ok (.if_icmp .lt 6, 3) := by decide +kernel
theorem dX9_keep_9 : decode cX9_keep 9 = .ok (.bipush (-2), 2) := by decide +kernel
theorem dX9_keep_11 : decode cX9_keep 11 = .ok (.ireturn, 1) := by decide +kernel
theorem dX9_keep_12 : decode cX9_keep 12 = .ok (.aload_n 0, 1) := by decide +kernel
theorem dX9_keep_13 : decode cX9_keep 13 = .ok (.getfield 27, 3) := by decide +kernel
theorem dX9_keep_16 : decode cX9_keep 16 = .ok (.iload_n 1, 1) := by decide +kernel
theorem dX9_keep_17 : decode cX9_keep 17 = .ok (.aaload, 1) := by decide +kernel
theorem dX9_keep_18 : decode cX9_keep 18 = .ok (.aload_n 0, 1) := by decide +kernel
theorem dX9_keep_19 : decode cX9_keep 19 = .ok (.getfield 19, 3) := by decide +kernel
theorem dX9_keep_22 : decode cX9_keep 22 = .ok (.invokevirtual 84, 3) := by decide +kernel
theorem dX9_keep_25 : decode cX9_keep 25 = .ok (.aload_n 0, 1) := by decide +kernel
theorem dX9_keep_26 : decode cX9_keep 26 = .ok (.getfield 30, 3) := by decide +kernel
theorem dX9_keep_29 : decode cX9_keep 29 = .ok (.iload_n 1, 1) := by decide +kernel
theorem dX9_keep_30 : decode cX9_keep 30 = .ok (.iconst 1, 1) := by decide +kernel
theorem dX9_keep_31 : decode cX9_keep 31 = .ok (.bastore, 1) := by decide +kernel
theorem dX9_keep_32 : decode cX9_keep 32 = .ok (.iconst 0, 1) := by decide +kernel
theorem dX9_keep_33 : decode cX9_keep 33 = .ok (.ireturn, 1) := by decide +kernel
theorem dX9_back_0 : decode cX9_back 0 = .ok (.iload_n 1, 1) := by decide +kernel
theorem dX9_back_1 : decode cX9_back 1 = .ok (.ifCond .lt 8, 3) := by decide +kernel
theorem dX9_back_4 : decode cX9_back 4 = .ok (.iload_n 1, 1) := by decide +kernel
theorem dX9_back_5 : decode cX9_back 5 = .ok (.iconst 3, 1) := by decide +kernel
theorem dX9_back_6 : decode cX9_back 6 = .ok (.if_icmp .lt 6, 3) := by decide +kernel
theorem dX9_back_9 : decode cX9_back 9 = .ok (.bipush (-2), 2) := by decide +kernel
theorem dX9_back_11 : decode cX9_back 11 = .ok (.ireturn, 1) := by decide +kernel
theorem dX9_back_12 : decode cX9_back 12 = .ok (.aload_n 0, 1) := by decide +kernel
theorem dX9_back_13 : decode cX9_back 13 = .ok (.getfield 30, 3) := by decide +kernel
theorem dX9_back_16 : decode cX9_back 16 = .ok (.iload_n 1, 1) := by decide +kernel
theorem dX9_back_17 : decode cX9_back 17 = .ok (.baload, 1) := by decide +kernel
theorem dX9_back_18 : decode cX9_back 18 = .ok (.ifCond .ne 6, 3) := by decide +kernel
theorem dX9_back_21 : decode cX9_back 21 = .ok (.bipush (-6), 2) := by decide +kernel
theorem dX9_back_23 : decode cX9_back 23 = .ok (.ireturn, 1) := by decide +kernel
theorem dX9_back_24 : decode cX9_back 24 = .ok (.aload_n 0, 1) := by decide +kernel
theorem dX9_back_25 : decode cX9_back 25 = .ok (.getfield 19, 3) := by decide +kernel
theorem dX9_back_28 : decode cX9_back 28 = .ok (.aload_n 0, 1) := by decide +kernel
theorem dX9_back_29 : decode cX9_back 29 = .ok (.getfield 27, 3) := by decide +kernel
theorem dX9_back_32 : decode cX9_back 32 = .ok (.iload_n 1, 1) := by decide +kernel
theorem dX9_back_33 : decode cX9_back 33 = .ok (.aaload, 1) := by decide +kernel
theorem dX9_back_34 : decode cX9_back 34 = .ok (.invokevirtual 84, 3) := by decide +kernel
theorem dX9_back_37 : decode cX9_back 37 = .ok (.iconst 0, 1) := by decide +kernel
theorem dX9_back_38 : decode cX9_back 38 = .ok (.ireturn, 1) := by decide +kernel
theorem dX9_isSlot_0 : decode cX9_isSlot 0 = .ok (.iload_n 0, 1) := by decide +kernel
theorem dX9_isSlot_1 : decode cX9_isSlot 1 = .ok (.ifCond .lt 12, 3) := by decide +kernel
theorem dX9_isSlot_4 : decode cX9_isSlot 4 = .ok (.iload_n 0, 1) := by decide +kernel
theorem dX9_isSlot_5 : decode cX9_isSlot 5 = .ok (.iconst 4, 1) := by decide +kernel
theorem dX9_isSlot_6 : decode cX9_isSlot 6 = .ok (.if_icmp .ge 7, 3) := by decide +kernel
theorem dX9_isSlot_9 : decode cX9_isSlot 9 = .ok (.iconst 1, 1) := by decide +kernel
theorem dX9_isSlot_10 : decode cX9_isSlot 10 = .ok (.goto 4, 3) := by decide +kernel
theorem dX9_isSlot_13 : decode cX9_isSlot 13 = .ok (.iconst 0, 1) := by decide +kernel
theorem dX9_isSlot_14 : decode cX9_isSlot 14 = .ok (.ireturn, 1) := by decide +kernel
theorem dX9_row_0 : decode cX9_row 0 = .ok (.iload_n 1, 1) := by decide +kernel
theorem dX9_row_1 : decode cX9_row 1 = .ok (.invokestatic 408, 3) := by decide +kernel
theorem dX9_row_4 : decode cX9_row 4 = .ok (.ifCond .eq 18, 3) := by decide +kernel
theorem dX9_row_7 : decode cX9_row 7 = .ok (.iload_n 2, 1) := by decide +kernel
theorem dX9_row_8 : decode cX9_row 8 = .ok (.ifCond .lt 14, 3) := by decide +kernel
theorem dX9_row_11 : decode cX9_row 11 = .ok (.iload_n 2, 1) := by decide +kernel
theorem dX9_row_12 : decode cX9_row 12 = .ok (.iconst 4, 1) := by decide +kernel
theorem dX9_row_13 : decode cX9_row 13 = .ok (.if_icmp .ge 9, 3) := by decide +kernel
theorem dX9_row_16 : decode cX9_row 16 = .ok (.iload_n 3, 1) := by decide +kernel
theorem dX9_row_17 : decode cX9_row 17 = .ok (.bipush 60, 2) := by decide +kernel
theorem dX9_row_19 : decode cX9_row 19 = .ok (.if_icmp .le 6, 3) := by decide +kernel
theorem dX9_row_22 : decode cX9_row 22 = .ok (.bipush (-2), 2) := by decide +kernel
theorem dX9_row_24 : decode cX9_row 24 = .ok (.ireturn, 1) := by decide +kernel
theorem dX9_row_25 : decode cX9_row 25 = .ok (.iload_n 3, 1) := by decide +kernel
theorem dX9_row_26 : decode cX9_row 26 = .ok (.ifCond .ge 6, 3) := by decide +kernel
theorem dX9_row_29 : decode cX9_row 29 = .ok (.bipush (-3), 2) := by decide +kernel
theorem dX9_row_31 : decode cX9_row 31 = .ok (.ireturn, 1) := by decide +kernel
theorem dX9_row_32 : decode cX9_row 32 = .ok (.aload_n 0, 1) := by decide +kernel
theorem dX9_row_33 : decode cX9_row 33 = .ok (.getfield 36, 3) := by decide +kernel
theorem dX9_row_36 : decode cX9_row 36 = .ok (.iload_n 1, 1) := by decide +kernel
theorem dX9_row_37 : decode cX9_row 37 = .ok (.aaload, 1) := by decide +kernel
theorem dX9_row_38 : decode cX9_row 38 = .ok (.iload_n 2, 1) := by decide +kernel
theorem dX9_row_39 : decode cX9_row 39 = .ok (.iload_n 3, 1) := by decide +kernel
theorem dX9_row_40 : decode cX9_row 40 = .ok (.invokevirtual 411, 3) := by decide +kernel
theorem dX9_row_43 : decode cX9_row 43 = .ok (.iconst 0, 1) := by decide +kernel
theorem dX9_row_44 : decode cX9_row 44 = .ok (.ireturn, 1) := by decide +kernel
theorem dX9_write_0 : decode cX9_write 0 = .ok (.iload_n 1, 1) := by decide +kernel
theorem dX9_write_1 : decode cX9_write 1 = .ok (.invokestatic 408, 3) := by decide +kernel
theorem dX9_write_4 : decode cX9_write 4 = .ok (.ifCond .ne 6, 3) := by decide +kernel
theorem dX9_write_7 : decode cX9_write 7 = .ok (.bipush (-2), 2) := by decide +kernel
theorem dX9_write_9 : decode cX9_write 9 = .ok (.ireturn, 1) := by decide +kernel
