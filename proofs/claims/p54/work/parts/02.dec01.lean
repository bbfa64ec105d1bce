theorem dX3_pleasure_20 : decode cX3_pleasure 20 = .ok (.iconst 0, 1) := by decide +kernel
theorem dX3_pleasure_21 : decode cX3_pleasure 21 = .ok (.istore 5, 2) := by decide +kernel
theorem dX3_pleasure_23 : decode cX3_pleasure 23 = .ok (.iload 5, 2) := by decide +kernel
theorem dX3_pleasure_25 : decode cX3_pleasure 25 = .ok (.iload_n 2, 1) := by decide +kernel
theorem dX3_pleasure_26 : decode cX3_pleasure 26 = .ok (.if_icmp .ge 28, 3) := by decide +kernel
theorem dX3_pleasure_29 : decode cX3_pleasure 29 = .ok (.iload 4, 2) := by decide +kernel
theorem dX3_pleasure_31 : decode cX3_pleasure 31 = .ok (.ifCond .le 23, 3) := by decide +kernel
theorem dX3_pleasure_34 : decode cX3_pleasure 34 = .ok (.iload_n 3, 1) := by decide +kernel
theorem dX3_pleasure_35 : decode cX3_pleasure 35 = .ok (.iload 4, 2) := by decide +kernel
theorem dX3_pleasure_37 : decode cX3_pleasure 37 = .ok (.iadd, 1) := by decide +kernel
theorem dX3_pleasure_38 : decode cX3_pleasure 38 = .ok (.istore_n 3, 1) := by decide +kernel
theorem dX3_pleasure_39 : decode cX3_pleasure 39 = .ok (.iload 4, 2) := by decide +kernel
theorem dX3_pleasure_41 : decode cX3_pleasure 41 = .ok (.aload_n 0, 1) := by decide +kernel
theorem dX3_pleasure_42 : decode cX3_pleasure 42 = .ok (.getfield 39, 3) := by decide +kernel
theorem dX3_pleasure_45 : decode cX3_pleasure 45 = .ok (.isub, 1) := by decide +kernel
theorem dX3_pleasure_46 : decode cX3_pleasure 46 = .ok (.istore 4, 2) := by decide +kernel
theorem dX3_pleasure_48 : decode cX3_pleasure 48 = .ok (.iinc 5 1, 3) := by decide +kernel
theorem dX3_pleasure_51 : decode cX3_pleasure 51 = .ok (.goto (-28), 3) := by decide +kernel
theorem dX3_pleasure_54 : decode cX3_pleasure 54 = .ok (.iload_n 3, 1) := by decide +kernel
theorem dX3_pleasure_55 : decode cX3_pleasure 55 = .ok (.ireturn, 1) := by decide +kernel
theorem dX3_toldFor_0 : decode cX3_toldFor 0 = .ok (.iload_n 1, 1) := by decide +kernel
theorem dX3_toldFor_1 : decode cX3_toldFor 1 = .ok (.aload_n 0, 1) := by decide +kernel
theorem dX3_toldFor_2 : decode cX3_toldFor 2 = .ok (.getfield 18, 3) := by decide +kernel
theorem dX3_toldFor_5 : decode cX3_toldFor 5 = .ok (.if_icmp .ne 8, 3) := by decide +kernel
theorem dX3_toldFor_8 : decode cX3_toldFor 8 = .ok (.aload_n 0, 1) := by decide +kernel
theorem dX3_toldFor_9 : decode cX3_toldFor 9 = .ok (.getfield 21, 3) := by decide +kernel
theorem dX3_toldFor_12 : decode cX3_toldFor 12 = .ok (.ireturn, 1) := by decide +kernel
theorem dX3_toldFor_13 : decode cX3_toldFor 13 = .ok (.iload_n 1, 1) := by decide +kernel
theorem dX3_toldFor_14 : decode cX3_toldFor 14 = .ok (.iconst 3, 1) := by decide +kernel
theorem dX3_toldFor_15 : decode cX3_toldFor 15 = .ok (.if_icmp .ne 7, 3) := by decide +kernel
theorem dX3_toldFor_18 : decode cX3_toldFor 18 = .ok (.iconst 3, 1) := by decide +kernel
theorem dX3_toldFor_19 : decode cX3_toldFor 19 = .ok (.goto 4, 3) := by decide +kernel
theorem dX3_toldFor_22 : decode cX3_toldFor 22 = .ok (.iconst 0, 1) := by decide +kernel
theorem dX3_toldFor_23 : decode cX3_toldFor 23 = .ok (.ireturn, 1) := by decide +kernel
theorem dX4_load_0 : decode cX4_load 0 = .ok (.aload_n 0, 1) := by decide +kernel
theorem dX4_load_1 : decode cX4_load 1 = .ok (.aload_n 1, 1) := by decide +kernel
theorem dX4_load_2 : decode cX4_load 2 = .ok (.getfield 18, 3) := by decide +kernel
theorem dX4_load_5 : decode cX4_load 5 = .ok (.putfield 24, 3) := by decide +kernel
theorem dX4_load_8 : decode cX4_load 8 = .ok (.aload_n 0, 1) := by decide +kernel
theorem dX4_load_9 : decode cX4_load 9 = .ok (.aload_n 1, 1) := by decide +kernel
theorem dX4_load_10 : decode cX4_load 10 = .ok (.getfield 25, 3) := by decide +kernel
theorem dX4_load_13 : decode cX4_load 13 = .ok (.putfield 28, 3) := by decide +kernel
theorem dX4_load_16 : decode cX4_load 16 = .ok (.aload_n 0, 1) := by decide +kernel
theorem dX4_load_17 : decode cX4_load 17 = .ok (.aload_n 1, 1) := by decide +kernel
theorem dX4_load_18 : decode cX4_load 18 = .ok (.getfield 29, 3) := by decide +kernel
theorem dX4_load_21 : decode cX4_load 21 = .ok (.putfield 32, 3) := by decide +kernel
theorem dX4_load_24 : decode cX4_load 24 = .ok (.iconst 0, 1) := by decide +kernel
theorem dX4_load_25 : decode cX4_load 25 = .ok (.istore_n 2, 1) := by decide +kernel
theorem dX4_load_26 : decode cX4_load 26 = .ok (.iload_n 2, 1) := by decide +kernel
theorem dX4_load_27 : decode cX4_load 27 = .ok (.aload_n 0, 1) := by decide +kernel
theorem dX4_load_28 : decode cX4_load 28 = .ok (.getfield 24, 3) := by decide +kernel
theorem dX4_load_31 : decode cX4_load 31 = .ok (.if_icmp .ge 39, 3) := by decide +kernel
theorem dX4_load_34 : decode cX4_load 34 = .ok (.aload_n 0, 1) := by decide +kernel
theorem dX4_load_35 : decode cX4_load 35 = .ok (.getfield 9, 3) := by decide +kernel
theorem dX4_load_38 : decode cX4_load 38 = .ok (.iload_n 2, 1) := by decide +kernel
theorem dX4_load_39 : decode cX4_load 39 = .ok (.aload_n 1, 1) := by decide +kernel
theorem dX4_load_40 : decode cX4_load 40 = .ok (.getfield 33, 3) := by decide +kernel
theorem dX4_load_43 : decode cX4_load 43 = .ok (.iload_n 2, 1) := by decide +kernel
theorem dX4_load_44 : decode cX4_load 44 = .ok (.aaload, 1) := by decide +kernel
theorem dX4_load_45 : decode cX4_load 45 = .ok (.getfield 37, 3) := by decide +kernel
theorem dX4_load_48 : decode cX4_load 48 = .ok (.iastore, 1) := by decide +kernel
theorem dX4_load_49 : decode cX4_load 49 = .ok (.aload_n 0, 1) := by decide +kernel
theorem dX4_load_50 : decode cX4_load 50 = .ok (.getfield 15, 3) := by decide +kernel
theorem dX4_load_53 : decode cX4_load 53 = .ok (.iload_n 2, 1) := by decide +kernel
theorem dX4_load_54 : decode cX4_load 54 = .ok (.aload_n 1, 1) := by decide +kernel
theorem dX4_load_55 : decode cX4_load 55 = .ok (.getfield 33, 3) := by decide +kernel
theorem dX4_load_58 : decode cX4_load 58 = .ok (.iload_n 2, 1) := by decide +kernel
theorem dX4_load_59 : decode cX4_load 59 = .ok (.aaload, 1) := by decide +kernel
theorem dX4_load_60 : decode cX4_load 60 = .ok (.getfield 41, 3) := by decide +kernel
theorem dX4_load_63 : decode cX4_load 63 = .ok (.iastore, 1) := by decide +kernel
theorem dX4_load_64 : decode cX4_load 64 = .ok (.iinc 2 1, 3) := by decide +kernel
theorem dX4_load_67 : decode cX4_load 67 = .ok (.goto (-41), 3) := by decide +kernel
theorem dX4_load_70 : decode cX4_load 70 = .ok (.return_, 1) := by decide +kernel
theorem dX4_spend_0 : decode cX4_spend 0 = .ok (.aload_n 0, 1) := by decide +kernel
theorem dX4_spend_1 : decode cX4_spend 1 = .ok (.getfield 9, 3) := by decide +kernel
theorem dX4_spend_4 : decode cX4_spend 4 = .ok (.iload_n 1, 1) := by decide +kernel
theorem dX4_spend_5 : decode cX4_spend 5 = .ok (.iconst 0, 1) := by decide +kernel
theorem dX4_spend_6 : decode cX4_spend 6 = .ok (.aload_n 0, 1) := by decide +kernel
theorem dX4_spend_7 : decode cX4_spend 7 = .ok (.getfield 9, 3) := by decide +kernel
theorem dX4_spend_10 : decode cX4_spend 10 = .ok (.iload_n 1, 1) := by decide +kernel
theorem dX4_spend_11 : decode cX4_spend 11 = .ok (.iaload, 1) := by decide +kernel
theorem dX4_spend_12 : decode cX4_spend 12 = .ok (.iload_n 2, 1) := by decide +kernel
theorem dX4_spend_13 : decode cX4_spend 13 = .ok (.isub, 1) := by decide +kernel
theorem dX4_spend_14 : decode cX4_spend 14 = .ok (.invokestatic 43, 3) := by decide +kernel
theorem dX4_spend_17 : decode cX4_spend 17 = .ok (.iastore, 1) := by decide +kernel
theorem dX4_spend_18 : decode cX4_spend 18 = .ok (.aload_n 0, 1) := by decide +kernel
theorem dX4_spend_19 : decode cX4_spend 19 = .ok (.getfield 15, 3) := by decide +kernel
theorem dX4_spend_22 : decode cX4_spend 22 = .ok (.iload_n 1, 1) := by decide +kernel
theorem dX4_spend_23 : decode cX4_spend 23 = .ok (.aload_n 0, 1) := by decide +kernel
theorem dX4_spend_24 : decode cX4_spend 24 = .ok (.getfield 15, 3) := by decide +kernel
theorem dX4_spend_27 : decode cX4_spend 27 = .ok (.iload_n 1, 1) := by decide +kernel
theorem dX4_spend_28 : decode cX4_spend 28 = .ok (.iaload, 1) := by decide +kernel
theorem dX4_spend_29 : decode cX4_spend 29 = .ok (.aload_n 0, 1) := by decide +kernel
theorem dX4_spend_30 : decode cX4_spend 30 = .ok (.getfield 9, 3) := by decide +kernel
theorem dX4_spend_33 : decode cX4_spend 33 = .ok (.iload_n 1, 1) := by decide +kernel
theorem dX4_spend_34 : decode cX4_spend 34 = .ok (.iaload, 1) := by decide +kernel
theorem dX4_spend_35 : decode cX4_spend 35 = .ok (.invokestatic 49, 3) := by decide +kernel
theorem dX4_spend_38 : decode cX4_spend 38 = .ok (.iastore, 1) := by decide +kernel
theorem dX4_spend_39 : decode cX4_spend 39 = .ok (.return_, 1) := by decide +kernel
theorem dX4_hand_0 : decode cX4_hand 0 = .ok (.aload_n 0, 1) := by decide +kernel
theorem dX4_hand_1 : decode cX4_hand 1 = .ok (.iload_n 1, 1) := by decide +kernel
theorem dX4_hand_2 : decode cX4_hand 2 = .ok (.iload_n 3, 1) := by decide +kernel
theorem dX4_hand_3 : decode cX4_hand 3 = .ok (.invokevirtual 52, 3) := by decide +kernel
theorem dX4_hand_6 : decode cX4_hand 6 = .ok (.aload_n 0, 1) := by decide +kernel
theorem dX4_hand_7 : decode cX4_hand 7 = .ok (.getfield 9, 3) := by decide +kernel
theorem dX4_hand_10 : decode cX4_hand 10 = .ok (.iload_n 2, 1) := by decide +kernel
theorem dX4_hand_11 : decode cX4_hand 11 = .ok (.aload_n 0, 1) := by decide +kernel
theorem dX4_hand_12 : decode cX4_hand 12 = .ok (.getfield 28, 3) := by decide +kernel
theorem dX4_hand_15 : decode cX4_hand 15 = .ok (.aload_n 0, 1) := by decide +kernel
theorem dX4_hand_16 : decode cX4_hand 16 = .ok (.getfield 9, 3) := by decide +kernel
theorem dX4_hand_19 : decode cX4_hand 19 = .ok (.iload_n 2, 1) := by decide +kernel
theorem dX4_hand_20 : decode cX4_hand 20 = .ok (.iaload, 1) := by decide +kernel
theorem dX4_hand_21 : decode cX4_hand 21 = .ok (.iload_n 3, 1) := by decide +kernel
theorem dX4_hand_22 : decode cX4_hand 22 = .ok (.iadd, 1) := by decide +kernel
theorem dX4_hand_23 : decode cX4_hand 23 = .ok (.invokestatic 49, 3) := by decide +kernel
theorem dX4_hand_26 : decode cX4_hand 26 = .ok (.iastore, 1) := by decide +kernel
theorem dX4_hand_27 : decode cX4_hand 27 = .ok (.return_, 1) := by decide +kernel
theorem dX4_lossOf_0 : decode cX4_lossOf 0 = .ok (.aload_n 0, 1) := by decide +kernel
theorem dX4_lossOf_1 : decode cX4_lossOf 1 = .ok (.getfield 56, 3) := by decide +kernel
theorem dX4_lossOf_4 : decode cX4_lossOf 4 = .ok (.iload_n 1, 1) := by decide +kernel
theorem dX4_lossOf_5 : decode cX4_lossOf 5 = .ok (.ishr, 1) := by decide +kernel
theorem dX4_lossOf_6 : decode cX4_lossOf 6 = .ok (.iconst 1, 1) := by decide +kernel
theorem dX4_lossOf_7 : decode cX4_lossOf 7 = .ok (.iand, 1) := by decide +kernel
theorem dX4_lossOf_8 : decode cX4_lossOf 8 = .ok (.ifCond .ne 7, 3) := by decide +kernel
theorem dX4_lossOf_11 : decode cX4_lossOf 11 = .ok (.iconst 0, 1) := by decide +kernel
theorem dX4_lossOf_12 : decode cX4_lossOf 12 = .ok (.goto 7, 3) := by decide +kernel
theorem dX4_lossOf_15 : decode cX4_lossOf 15 = .ok (.aload_n 0, 1) := by decide +kernel
theorem dX4_lossOf_16 : decode cX4_lossOf 16 = .ok (.getfield 59, 3) := by decide +kernel
theorem dX4_lossOf_19 : decode cX4_lossOf 19 = .ok (.ireturn, 1) := by decide +kernel
theorem dX4_look_0 : decode cX4_look 0 = .ok (.aload_n 0, 1) := by decide +kernel
theorem dX4_look_1 : decode cX4_look 1 = .ok (.iconst (-1), 1) := by decide +kernel
theorem dX4_look_2 : decode cX4_look 2 = .ok (.putfield 62, 3) := by decide +kernel
theorem dX4_look_5 : decode cX4_look 5 = .ok (.aload_n 0, 1) := by decide +kernel
theorem dX4_look_6 : decode cX4_look 6 = .ok (.iconst 0, 1) := by decide +kernel
theorem dX4_look_7 : decode cX4_look 7 = .ok (.putfield 65, 3) := by decide +kernel
theorem dX4_look_10 : decode cX4_look 10 = .ok (.iconst 0, 1) := by decide +kernel
theorem dX4_look_11 : decode cX4_look 11 = .ok (.istore_n 2, 1) := by decide +kernel
theorem dX4_look_12 : decode cX4_look 12 = .ok (.iload_n 2, 1) := by decide +kernel
theorem dX4_look_13 : decode cX4_look 13 = .ok (.aload_n 0, 1) := by decide +kernel
theorem dX4_look_14 : decode cX4_look 14 = .ok (.getfield 24, 3) := by decide +kernel
theorem dX4_look_17 : decode cX4_look 17 = .ok (.if_icmp .ge 116, 3) := by decide +kernel
theorem dX4_look_20 : decode cX4_look 20 = .ok (.aload_n 0, 1) := by decide +kernel
theorem dX4_look_21 : decode cX4_look 21 = .ok (.getfield 9, 3) := by decide +kernel
theorem dX4_look_24 : decode cX4_look 24 = .ok (.iload_n 2, 1) := by decide +kernel
theorem dX4_look_25 : decode cX4_look 25 = .ok (.iaload, 1) := by decide +kernel
theorem dX4_look_26 : decode cX4_look 26 = .ok (.aload_n 0, 1) := by decide +kernel
theorem dX4_look_27 : decode cX4_look 27 = .ok (.getfield 15, 3) := by decide +kernel
theorem dX4_look_30 : decode cX4_look 30 = .ok (.iload_n 2, 1) := by decide +kernel
theorem dX4_look_31 : decode cX4_look 31 = .ok (.iaload, 1) := by decide +kernel
theorem dX4_look_32 : decode cX4_look 32 = .ok (.isub, 1) := by decide +kernel
theorem dX4_look_33 : decode cX4_look 33 = .ok (.istore_n 3, 1) := by decide +kernel
theorem dX4_look_34 : decode cX4_look 34 = .ok (.iload_n 3, 1) := by decide +kernel
theorem dX4_look_35 : decode cX4_look 35 = .ok (.aload_n 0, 1) := by decide +kernel
theorem dX4_look_36 : decode cX4_look 36 = .ok (.getfield 62, 3) := by decide +kernel
theorem dX4_look_39 : decode cX4_look 39 = .ok (.if_icmp .le 42, 3) := by decide +kernel
theorem dX4_look_42 : decode cX4_look 42 = .ok (.aload_n 0, 1) := by decide +kernel
theorem dX4_look_43 : decode cX4_look 43 = .ok (.aload_n 0, 1) := by decide +kernel
theorem dX4_look_44 : decode cX4_look 44 = .ok (.getfield 62, 3) := by decide +kernel
theorem dX4_look_47 : decode cX4_look 47 = .ok (.ifCond .ge 7, 3) := by decide +kernel
theorem dX4_look_50 : decode cX4_look 50 = .ok (.iconst 0, 1) := by decide +kernel
theorem dX4_look_51 : decode cX4_look 51 = .ok (.goto 7, 3) := by decide +kernel
theorem dX4_look_54 : decode cX4_look 54 = .ok (.aload_n 0, 1) := by decide +kernel
theorem dX4_look_55 : decode cX4_look 55 = .ok (.getfield 62, 3) := by decide +kernel
theorem dX4_look_58 : decode cX4_look 58 = .ok (.putfield 65, 3) := by decide +kernel
theorem dX4_look_61 : decode cX4_look 61 = .ok (.aload_n 0, 1) := by decide +kernel
theorem dX4_look_62 : decode cX4_look 62 = .ok (.iload_n 3, 1) := by decide +kernel
theorem dX4_look_63 : decode cX4_look 63 = .ok (.putfield 62, 3) := by decide +kernel
theorem dX4_look_66 : decode cX4_look 66 = .ok (.aload_n 0, 1) := by decide +kernel
theorem dX4_look_67 : decode cX4_look 67 = .ok (.iconst 1, 1) := by decide +kernel
theorem dX4_look_68 : decode cX4_look 68 = .ok (.iload_n 2, 1) := by decide +kernel
theorem dX4_look_69 : decode cX4_look 69 = .ok (.ishl, 1) := by decide +kernel
theorem dX4_look_70 : decode cX4_look 70 = .ok (.putfield 56, 3) := by decide +kernel
theorem dX4_look_73 : decode cX4_look 73 = .ok (.aload_n 0, 1) := by decide +kernel
theorem dX4_look_74 : decode cX4_look 74 = .ok (.iconst 1, 1) := by decide +kernel
theorem dX4_look_75 : decode cX4_look 75 = .ok (.putfield 68, 3) := by decide +kernel
theorem dX4_look_78 : decode cX4_look 78 = .ok (.goto 49, 3) := by decide +kernel
theorem dX4_look_81 : decode cX4_look 81 = .ok (.iload_n 3, 1) := by decide +kernel
theorem dX4_look_82 : decode cX4_look 82 = .ok (.aload_n 0, 1) := by decide +kernel
theorem dX4_look_83 : decode cX4_look 83 = .ok (.getfield 62, 3) := by decide +kernel
theorem dX4_look_86 : decode cX4_look 86 = .ok (.if_icmp .ne 28, 3) := by decide +kernel
theorem dX4_look_89 : decode cX4_look 89 = .ok (.aload_n 0, 1) := by decide +kernel
theorem dX4_look_90 : decode cX4_look 90 = .ok (.dup, 1) := by decide +kernel
theorem dX4_look_91 : decode cX4_look 91 = .ok (.getfield 56, 3) := by decide +kernel
theorem dX4_look_94 : decode cX4_look 94 = .ok (.iconst 1, 1) := by decide +kernel
theorem dX4_look_95 : decode cX4_look 95 = .ok (.iload_n 2, 1) := by decide +kernel
theorem dX4_look_96 : decode cX4_look 96 = .ok (.ishl, 1) := by decide +kernel
theorem dX4_look_97 : decode cX4_look 97 = .ok (.ior, 1) := by decide +kernel
theorem dX4_look_98 : decode cX4_look 98 = .ok (.putfield 56, 3) := by decide +kernel
theorem dX4_look_101 : decode cX4_look 101 = .ok (.aload_n 0, 1) := by decide +kernel
theorem dX4_look_102 : decode cX4_look 102 = .ok (.dup, 1) := by decide +kernel
theorem dX4_look_103 : decode cX4_look 103 = .ok (.getfield 68, 3) := by decide +kernel
theorem dX4_look_106 : decode cX4_look 106 = .ok (.iconst 1, 1) := by decide +kernel
theorem dX4_look_107 : decode cX4_look 107 = .ok (.iadd, 1) := by decide +kernel
theorem dX4_look_108 : decode cX4_look 108 = .ok (.putfield 68, 3) := by decide +kernel
theorem dX4_look_111 : decode cX4_look 111 = .ok (.goto 16, 3) := by decide +kernel
theorem dX4_look_114 : decode cX4_look 114 = .ok (.iload_n 3, 1) := by decide +kernel
theorem dX4_look_115 : decode cX4_look 115 = .ok (.aload_n 0, 1) := by decide +kernel
theorem dX4_look_116 : decode cX4_look 116 = .ok (.getfield 65, 3) := by decide +kernel
theorem dX4_look_119 : decode cX4_look 119 = .ok (.if_icmp .le 8, 3) := by decide +kernel
theorem dX4_look_122 : decode cX4_look 122 = .ok (.aload_n 0, 1) := by decide +kernel
theorem dX4_look_123 : decode cX4_look 123 = .ok (.iload_n 3, 1) := by decide +kernel
theorem dX4_look_124 : decode cX4_look 124 = .ok (.putfield 65, 3) := by decide +kernel
theorem dX4_look_127 : decode cX4_look 127 = .ok (.iinc 2 1, 3) := by decide +kernel
theorem dX4_look_130 : decode cX4_look 130 = .ok (.goto (-118), 3) := by decide +kernel
theorem dX4_look_133 : decode cX4_look 133 = .ok (.aload_n 0, 1) := by decide +kernel
theorem dX4_look_134 : decode cX4_look 134 = .ok (.getfield 62, 3) := by decide +kernel
theorem dX4_look_137 : decode cX4_look 137 = .ok (.aload_n 0, 1) := by decide +kernel
theorem dX4_look_138 : decode cX4_look 138 = .ok (.getfield 65, 3) := by decide +kernel
theorem dX4_look_141 : decode cX4_look 141 = .ok (.isub, 1) := by decide +kernel
theorem dX4_look_142 : decode cX4_look 142 = .ok (.aload_n 1, 1) := by decide +kernel
theorem dX4_look_143 : decode cX4_look 143 = .ok (.getfield 71, 3) := by decide +kernel
theorem dX4_look_146 : decode cX4_look 146 = .ok (.isub, 1) := by decide +kernel
theorem dX4_look_147 : decode cX4_look 147 = .ok (.istore_n 2, 1) := by decide +kernel
theorem dX4_look_148 : decode cX4_look 148 = .ok (.aload_n 0, 1) := by decide +kernel
theorem dX4_look_149 : decode cX4_look 149 = .ok (.aload_n 0, 1) := by decide +kernel
theorem dX4_look_150 : decode cX4_look 150 = .ok (.getfield 68, 3) := by decide +kernel
theorem dX4_look_153 : decode cX4_look 153 = .ok (.aload_n 1, 1) := by decide +kernel
theorem dX4_look_154 : decode cX4_look 154 = .ok (.getfield 76, 3) := by decide +kernel
theorem dX4_look_157 : decode cX4_look 157 = .ok (.if_icmp .ge 11, 3) := by decide +kernel
theorem dX4_look_160 : decode cX4_look 160 = .ok (.iload_n 2, 1) := by decide +kernel
theorem dX4_look_161 : decode cX4_look 161 = .ok (.ifCond .le 7, 3) := by decide +kernel
theorem dX4_look_164 : decode cX4_look 164 = .ok (.iload_n 2, 1) := by decide +kernel
theorem dX4_look_165 : decode cX4_look 165 = .ok (.goto 4, 3) := by decide +kernel
theorem dX4_look_168 : decode cX4_look 168 = .ok (.iconst 0, 1) := by decide +kernel
theorem dX4_look_169 : decode cX4_look 169 = .ok (.putfield 59, 3) := by decide +kernel
theorem dX4_look_172 : decode cX4_look 172 = .ok (.aload_n 0, 1) := by decide +kernel
theorem dX4_look_173 : decode cX4_look 173 = .ok (.aload_n 0, 1) := by decide +kernel
theorem dX4_look_174 : decode cX4_look 174 = .ok (.getfield 59, 3) := by decide +kernel
theorem dX4_look_177 : decode cX4_look 177 = .ok (.aload_n 0, 1) := by decide +kernel
theorem dX4_look_178 : decode cX4_look 178 = .ok (.getfield 68, 3) := by decide +kernel
theorem dX4_look_181 : decode cX4_look 181 = .ok (.imul, 1) := by decide +kernel
theorem dX4_look_182 : decode cX4_look 182 = .ok (.putfield 79, 3) := by decide +kernel
theorem dX4_look_185 : decode cX4_look 185 = .ok (.return_, 1) := by decide +kernel
theorem dX4_strike_0 : decode cX4_strike 0 = .ok (.aload_n 0, 1) := by decide +kernel
theorem dX4_strike_1 : decode cX4_strike 1 = .ok (.aload_n 1, 1) := by decide +kernel
theorem dX4_strike_2 : decode cX4_strike 2 = .ok (.invokevirtual 82, 3) := by decide +kernel
theorem dX4_strike_5 : decode cX4_strike 5 = .ok (.aload_n 0, 1) := by decide +kernel
theorem dX4_strike_6 : decode cX4_strike 6 = .ok (.getfield 79, 3) := by decide +kernel
theorem dX4_strike_9 : decode cX4_strike 9 = .ok (.ifCond .le 11, 3) := by decide +kernel
theorem dX4_strike_12 : decode cX4_strike 12 = .ok (.aload_n 0, 1) := by decide +kernel
theorem dX4_strike_13 : decode cX4_strike 13 = .ok (.aload_n 1, 1) := by decide +kernel
theorem dX4_strike_14 : decode cX4_strike 14 = .ok (.getfield 86, 3) := by decide +kernel
theorem dX4_strike_17 : decode cX4_strike 17 = .ok (.invokevirtual 89, 3) := by decide +kernel
theorem dX4_strike_20 : decode cX4_strike 20 = .ok (.aload_n 1, 1) := by decide +kernel
theorem dX4_strike_21 : decode cX4_strike 21 = .ok (.getfield 93, 3) := by decide +kernel
theorem dX4_strike_24 : decode cX4_strike 24 = .ok (.ifCond .eq 7, 3) := by decide +kernel
theorem dX4_strike_27 : decode cX4_strike 27 = .ok (.aload_n 0, 1) := by decide +kernel
theorem dX4_strike_28 : decode cX4_strike 28 = .ok (.invokevirtual 97, 3) := by decide +kernel
theorem dX4_strike_31 : decode cX4_strike 31 = .ok (.return_, 1) := by decide +kernel
theorem dX4_takeLost_0 : decode cX4_takeLost 0 = .ok (.aload_n 0, 1) := by decide +kernel
theorem dX4_takeLost_1 : decode cX4_takeLost 1 = .ok (.getfield 24, 3) := by decide +kernel
theorem dX4_takeLost_4 : decode cX4_takeLost 4 = .ok (.aload_n 0, 1) := by decide +kernel
theorem dX4_takeLost_5 : decode cX4_takeLost 5 = .ok (.getfield 68, 3) := by decide +kernel
theorem dX4_takeLost_8 : decode cX4_takeLost 8 = .ok (.isub, 1) := by decide +kernel
theorem dX4_takeLost_9 : decode cX4_takeLost 9 = .ok (.istore_n 2, 1) := by decide +kernel
theorem dX4_takeLost_10 : decode cX4_takeLost 10 = .ok (.iload_n 1, 1) := by decide +kernel
theorem dX4_takeLost_11 : decode cX4_takeLost 11 = .ok (.iconst 1, 1) := by decide +kernel
theorem dX4_takeLost_12 : decode cX4_takeLost 12 = .ok (.if_icmp .ne 16, 3) := by decide +kernel
theorem dX4_takeLost_15 : decode cX4_takeLost 15 = .ok (.iload_n 2, 1) := by decide +kernel
theorem dX4_takeLost_16 : decode cX4_takeLost 16 = .ok (.ifCond .le 12, 3) := by decide +kernel
theorem dX4_takeLost_19 : decode cX4_takeLost 19 = .ok (.aload_n 0, 1) := by decide +kernel
theorem dX4_takeLost_20 : decode cX4_takeLost 20 = .ok (.getfield 79, 3) := by decide +kernel
theorem dX4_takeLost_23 : decode cX4_takeLost 23 = .ok (.iload_n 2, 1) := by decide +kernel
theorem dX4_takeLost_24 : decode cX4_takeLost 24 = .ok (.idiv, 1) := by decide +kernel
theorem dX4_takeLost_25 : decode cX4_takeLost 25 = .ok (.goto 4, 3) := by decide +kernel
theorem dX4_takeLost_28 : decode cX4_takeLost 28 = .ok (.iconst 0, 1) := by decide +kernel
theorem dX4_takeLost_29 : decode cX4_takeLost 29 = .ok (.istore_n 3, 1) := by decide +kernel
theorem dX4_takeLost_30 : decode cX4_takeLost 30 = .ok (.iconst 0, 1) := by decide +kernel
theorem dX4_takeLost_31 : decode cX4_takeLost 31 = .ok (.istore 4, 2) := by decide +kernel
theorem dX4_takeLost_33 : decode cX4_takeLost 33 = .ok (.iload 4, 2) := by decide +kernel
theorem dX4_takeLost_35 : decode cX4_takeLost 35 = .ok (.aload_n 0, 1) := by decide +kernel
theorem dX4_takeLost_36 : decode cX4_takeLost 36 = .ok (.getfield 24, 3) := by decide +kernel
theorem dX4_takeLost_39 : decode cX4_takeLost 39 = .ok (.if_icmp .ge 73, 3) := by decide +kernel
theorem dX4_takeLost_42 : decode cX4_takeLost 42 = .ok (.aload_n 0, 1) := by decide +kernel
theorem dX4_takeLost_43 : decode cX4_takeLost 43 = .ok (.getfield 56, 3) := by decide +kernel
theorem dX4_takeLost_46 : decode cX4_takeLost 46 = .ok (.iload 4, 2) := by decide +kernel
theorem dX4_takeLost_48 : decode cX4_takeLost 48 = .ok (.ishr, 1) := by decide +kernel
theorem dX4_takeLost_49 : decode cX4_takeLost 49 = .ok (.iconst 1, 1) := by decide +kernel
theorem dX4_takeLost_50 : decode cX4_takeLost 50 = .ok (.iand, 1) := by decide +kernel
theorem dX4_takeLost_51 : decode cX4_takeLost 51 = .ok (.ifCond .ne 7, 3) := by decide +kernel
theorem dX4_takeLost_54 : decode cX4_takeLost 54 = .ok (.iload_n 3, 1) := by decide +kernel
theorem dX4_takeLost_55 : decode cX4_takeLost 55 = .ok (.goto 8, 3) := by decide +kernel
theorem dX4_takeLost_58 : decode cX4_takeLost 58 = .ok (.aload_n 0, 1) := by decide +kernel
theorem dX4_takeLost_59 : decode cX4_takeLost 59 = .ok (.getfield 59, 3) := by decide +kernel
theorem dX4_takeLost_62 : decode cX4_takeLost 62 = .ok (.ineg, 1) := by decide +kernel
theorem dX4_takeLost_63 : decode cX4_takeLost 63 = .ok (.istore 5, 2) := by decide +kernel
theorem dX4_takeLost_65 : decode cX4_takeLost 65 = .ok (.aload_n 0, 1) := by decide +kernel
theorem dX4_takeLost_66 : decode cX4_takeLost 66 = .ok (.getfield 9, 3) := by decide +kernel
theorem dX4_takeLost_69 : decode cX4_takeLost 69 = .ok (.iload 4, 2) := by decide +kernel
theorem dX4_takeLost_71 : decode cX4_takeLost 71 = .ok (.iload 5, 2) := by decide +kernel
theorem dX4_takeLost_73 : decode cX4_takeLost 73 = .ok (.aload_n 0, 1) := by decide +kernel
theorem dX4_takeLost_74 : decode cX4_takeLost 74 = .ok (.getfield 28, 3) := by decide +kernel
theorem dX4_takeLost_77 : decode cX4_takeLost 77 = .ok (.aload_n 0, 1) := by decide +kernel
theorem dX4_takeLost_78 : decode cX4_takeLost 78 = .ok (.getfield 9, 3) := by decide +kernel
theorem dX4_takeLost_81 : decode cX4_takeLost 81 = .ok (.iload 4, 2) := by decide +kernel
theorem dX4_takeLost_83 : decode cX4_takeLost 83 = .ok (.iaload, 1) := by decide +kernel
theorem dX4_takeLost_84 : decode cX4_takeLost 84 = .ok (.isub, 1) := by decide +kernel
theorem dX4_takeLost_85 : decode cX4_takeLost 85 = .ok (.if_icmp .le 10, 3) := by decide +kernel
theorem dX4_takeLost_88 : decode cX4_takeLost 88 = .ok (.aload_n 0, 1) := by decide +kernel
theorem dX4_takeLost_89 : decode cX4_takeLost 89 = .ok (.getfield 28, 3) := by decide +kernel
theorem dX4_takeLost_92 : decode cX4_takeLost 92 = .ok (.goto 13, 3) := by decide +kernel
theorem dX4_takeLost_95 : decode cX4_takeLost 95 = .ok (.aload_n 0, 1) := by decide +kernel
theorem dX4_takeLost_96 : decode cX4_takeLost 96 = .ok (.getfield 9, 3) := by decide +kernel
theorem dX4_takeLost_99 : decode cX4_takeLost 99 = .ok (.iload 4, 2) := by decide +kernel
theorem dX4_takeLost_101 : decode cX4_takeLost 101 = .ok (.iaload, 1) := by decide +kernel
theorem dX4_takeLost_102 : decode cX4_takeLost 102 = .ok (.iload 5, 2) := by decide +kernel
theorem dX4_takeLost_104 : decode cX4_takeLost 104 = .ok (.iadd, 1) := by decide +kernel
theorem dX4_takeLost_105 : decode cX4_takeLost 105 = .ok (.iastore, 1) := by decide +kernel
theorem dX4_takeLost_106 : decode cX4_takeLost 106 = .ok (.iinc 4 1, 3) := by decide +kernel
theorem dX4_takeLost_109 : decode cX4_takeLost 109 = .ok (.goto (-76), 3) := by decide +kernel
theorem dX4_takeLost_112 : decode cX4_takeLost 112 = .ok (.iload_n 1, 1) := by decide +kernel
theorem dX4_takeLost_113 : decode cX4_takeLost 113 = .ok (.iconst 2, 1) := by decide +kernel
theorem dX4_takeLost_114 : decode cX4_takeLost 114 = .ok (.if_icmp .eq 20, 3) := by decide +kernel
theorem dX4_takeLost_117 : decode cX4_takeLost 117 = .ok (.aload_n 0, 1) := by decide +kernel
theorem dX4_takeLost_118 : decode cX4_takeLost 118 = .ok (.dup, 1) := by decide +kernel
theorem dX4_takeLost_119 : decode cX4_takeLost 119 = .ok (.getfield 32, 3) := by decide +kernel
theorem dX4_takeLost_122 : decode cX4_takeLost 122 = .ok (.aload_n 0, 1) := by decide +kernel
theorem dX4_takeLost_123 : decode cX4_takeLost 123 = .ok (.getfield 79, 3) := by decide +kernel
theorem dX4_takeLost_126 : decode cX4_takeLost 126 = .ok (.iload_n 3, 1) := by decide +kernel
theorem dX4_takeLost_127 : decode cX4_takeLost 127 = .ok (.iload_n 2, 1) := by decide +kernel
theorem dX4_takeLost_128 : decode cX4_takeLost 128 = .ok (.imul, 1) := by decide +kernel
theorem dX4_takeLost_129 : decode cX4_takeLost 129 = .ok (.isub, 1) := by decide +kernel
theorem dX4_takeLost_130 : decode cX4_takeLost 130 = .ok (.iadd, 1) := by decide +kernel
theorem dX4_takeLost_131 : decode cX4_takeLost 131 = .ok (.putfield 32, 3) := by decide +kernel
theorem dX4_takeLost_134 : decode cX4_takeLost 134 = .ok (.return_, 1) := by decide +kernel
theorem dX4_raiseLeast_0 : decode cX4_raiseLeast 0 = .ok (.aload_n 0, 1) := by decide +kernel
theorem dX4_raiseLeast_1 : decode cX4_raiseLeast 1 = .ok (.getfield 28, 3) := by decide +kernel
theorem dX4_raiseLeast_4 : decode cX4_raiseLeast 4 = .ok (.iconst 1, 1) := by decide +kernel
theorem dX4_raiseLeast_5 : decode cX4_raiseLeast 5 = .ok (.iadd, 1) := by decide +kernel
theorem dX4_raiseLeast_6 : decode cX4_raiseLeast 6 = .ok (.istore_n 1, 1) := by decide +kernel
theorem dX4_raiseLeast_7 : decode cX4_raiseLeast 7 = .ok (.iload_n 1, 1) := by decide +kernel
theorem dX4_raiseLeast_8 : decode cX4_raiseLeast 8 = .ok (.istore_n 2, 1) := by decide +kernel
theorem dX4_raiseLeast_9 : decode cX4_raiseLeast 9 = .ok (.iload_n 1, 1) := by decide +kernel
theorem dX4_raiseLeast_10 : decode cX4_raiseLeast 10 = .ok (.istore_n 3, 1) := by decide +kernel
theorem dX4_raiseLeast_11 : decode cX4_raiseLeast 11 = .ok (.iconst 0, 1) := by decide +kernel
theorem dX4_raiseLeast_12 : decode cX4_raiseLeast 12 = .ok (.istore 4, 2) := by decide +kernel
theorem dX4_raiseLeast_14 : decode cX4_raiseLeast 14 = .ok (.iconst 0, 1) := by decide +kernel
theorem dX4_raiseLeast_15 : decode cX4_raiseLeast 15 = .ok (.istore 5, 2) := by decide +kernel
theorem dX4_raiseLeast_17 : decode cX4_raiseLeast 17 = .ok (.iconst 0, 1) := by decide +kernel
theorem dX4_raiseLeast_18 : decode cX4_raiseLeast 18 = .ok (.istore 6, 2) := by decide +kernel
theorem dX4_raiseLeast_20 : decode cX4_raiseLeast 20 = .ok (.iload 6, 2) := by decide +kernel
theorem dX4_raiseLeast_22 : decode cX4_raiseLeast 22 = .ok (.aload_n 0, 1) := by decide +kernel
theorem dX4_raiseLeast_23 : decode cX4_raiseLeast 23 = .ok (.getfield 24, 3) := by decide +kernel
theorem dX4_raiseLeast_26 : decode cX4_raiseLeast 26 = .ok (.if_icmp .ge 68, 3) := by decide +kernel
theorem dX4_raiseLeast_29 : decode cX4_raiseLeast 29 = .ok (.aload_n 0, 1) := by decide +kernel
theorem dX4_raiseLeast_30 : decode cX4_raiseLeast 30 = .ok (.getfield 9, 3) := by decide +kernel
theorem dX4_raiseLeast_33 : decode cX4_raiseLeast 33 = .ok (.iload 6, 2) := by decide +kernel
theorem dX4_raiseLeast_35 : decode cX4_raiseLeast 35 = .ok (.iaload, 1) := by decide +kernel
theorem dX4_raiseLeast_36 : decode cX4_raiseLeast 36 = .ok (.aload_n 0, 1) := by decide +kernel
theorem dX4_raiseLeast_37 : decode cX4_raiseLeast 37 = .ok (.getfield 15, 3) := by decide +kernel
theorem dX4_raiseLeast_40 : decode cX4_raiseLeast 40 = .ok (.iload 6, 2) := by decide +kernel
theorem dX4_raiseLeast_42 : decode cX4_raiseLeast 42 = .ok (.iaload, 1) := by decide +kernel
theorem dX4_raiseLeast_43 : decode cX4_raiseLeast 43 = .ok (.isub, 1) := by decide +kernel
theorem dX4_raiseLeast_44 : decode cX4_raiseLeast 44 = .ok (.istore 7, 2) := by decide +kernel
theorem dX4_raiseLeast_46 : decode cX4_raiseLeast 46 = .ok (.iload 7, 2) := by decide +kernel
theorem dX4_raiseLeast_48 : decode cX4_raiseLeast 48 = .ok (.iload_n 2, 1) := by decide +kernel
theorem dX4_raiseLeast_49 : decode cX4_raiseLeast 49 = .ok (.if_icmp .ge 18, 3) := by decide +kernel
theorem dX4_raiseLeast_52 : decode cX4_raiseLeast 52 = .ok (.iload_n 2, 1) := by decide +kernel
theorem dX4_raiseLeast_53 : decode cX4_raiseLeast 53 = .ok (.istore_n 3, 1) := by decide +kernel
theorem dX4_raiseLeast_54 : decode cX4_raiseLeast 54 = .ok (.iload 7, 2) := by decide +kernel
theorem dX4_raiseLeast_56 : decode cX4_raiseLeast 56 = .ok (.istore_n 2, 1) := by decide +kernel
theorem dX4_raiseLeast_57 : decode cX4_raiseLeast 57 = .ok (.iload 6, 2) := by decide +kernel
theorem dX4_raiseLeast_59 : decode cX4_raiseLeast 59 = .ok (.istore 4, 2) := by decide +kernel
theorem dX4_raiseLeast_61 : decode cX4_raiseLeast 61 = .ok (.iconst 1, 1) := by decide +kernel
theorem dX4_raiseLeast_62 : decode cX4_raiseLeast 62 = .ok (.istore 5, 2) := by decide +kernel
theorem dX4_raiseLeast_64 : decode cX4_raiseLeast 64 = .ok (.goto 24, 3) := by decide +kernel
theorem dX4_raiseLeast_67 : decode cX4_raiseLeast 67 = .ok (.iload 7, 2) := by decide +kernel
theorem dX4_raiseLeast_69 : decode cX4_raiseLeast 69 = .ok (.iload_n 2, 1) := by decide +kernel
theorem dX4_raiseLeast_70 : decode cX4_raiseLeast 70 = .ok (.if_icmp .ne 9, 3) := by decide +kernel
theorem dX4_raiseLeast_73 : decode cX4_raiseLeast 73 = .ok (.iinc 5 1, 3) := by decide +kernel
theorem dX4_raiseLeast_76 : decode cX4_raiseLeast 76 = .ok (.goto 12, 3) := by decide +kernel
theorem dX4_raiseLeast_79 : decode cX4_raiseLeast 79 = .ok (.iload 7, 2) := by decide +kernel
theorem dX4_raiseLeast_81 : decode cX4_raiseLeast 81 = .ok (.iload_n 3, 1) := by decide +kernel
theorem dX4_raiseLeast_82 : decode cX4_raiseLeast 82 = .ok (.if_icmp .ge 6, 3) := by decide +kernel
theorem dX4_raiseLeast_85 : decode cX4_raiseLeast 85 = .ok (.iload 7, 2) := by decide +kernel
theorem dX4_raiseLeast_87 : decode cX4_raiseLeast 87 = .ok (.istore_n 3, 1) := by decide +kernel
theorem dX4_raiseLeast_88 : decode cX4_raiseLeast 88 = .ok (.iinc 6 1, 3) := by decide +kernel
theorem dX4_raiseLeast_91 : decode cX4_raiseLeast 91 = .ok (.goto (-71), 3) := by decide +kernel
theorem dX4_raiseLeast_94 : decode cX4_raiseLeast 94 = .ok (.iload 5, 2) := by decide +kernel
theorem dX4_raiseLeast_96 : decode cX4_raiseLeast 96 = .ok (.iconst 1, 1) := by decide +kernel
theorem dX4_raiseLeast_97 : decode cX4_raiseLeast 97 = .ok (.if_icmp .ne 82, 3) := by decide +kernel
theorem dX4_raiseLeast_100 : decode cX4_raiseLeast 100 = .ok (.iload_n 3, 1) := by decide +kernel
theorem dX4_raiseLeast_101 : decode cX4_raiseLeast 101 = .ok (.iload_n 1, 1) := by decide +kernel
theorem dX4_raiseLeast_102 : decode cX4_raiseLeast 102 = .ok (.if_icmp .eq 77, 3) := by decide +kernel
theorem dX4_raiseLeast_105 : decode cX4_raiseLeast 105 = .ok (.aload_n 0, 1) := by decide +kernel
theorem dX4_raiseLeast_106 : decode cX4_raiseLeast 106 = .ok (.getfield 32, 3) := by decide +kernel
theorem dX4_raiseLeast_109 : decode cX4_raiseLeast 109 = .ok (.iload_n 3, 1) := by decide +kernel
theorem dX4_raiseLeast_110 : decode cX4_raiseLeast 110 = .ok (.iload_n 2, 1) := by decide +kernel
theorem dX4_raiseLeast_111 : decode cX4_raiseLeast 111 = .ok (.isub, 1) := by decide +kernel
theorem dX4_raiseLeast_112 : decode cX4_raiseLeast 112 = .ok (.if_icmp .ge 10, 3) := by decide +kernel
theorem dX4_raiseLeast_115 : decode cX4_raiseLeast 115 = .ok (.aload_n 0, 1) := by decide +kernel
theorem dX4_raiseLeast_116 : decode cX4_raiseLeast 116 = .ok (.getfield 32, 3) := by decide +kernel
theorem dX4_raiseLeast_119 : decode cX4_raiseLeast 119 = .ok (.goto 6, 3) := by decide +kernel
theorem dX4_raiseLeast_122 : decode cX4_raiseLeast 122 = .ok (.iload_n 3, 1) := by decide +kernel
theorem dX4_raiseLeast_123 : decode cX4_raiseLeast 123 = .ok (.iload_n 2, 1) := by decide +kernel
theorem dX4_raiseLeast_124 : decode cX4_raiseLeast 124 = .ok (.isub, 1) := by decide +kernel
theorem dX4_raiseLeast_125 : decode cX4_raiseLeast 125 = .ok (.istore 6, 2) := by decide +kernel
theorem dX4_raiseLeast_127 : decode cX4_raiseLeast 127 = .ok (.aload_n 0, 1) := by decide +kernel
theorem dX4_raiseLeast_128 : decode cX4_raiseLeast 128 = .ok (.dup, 1) := by decide +kernel
theorem dX4_raiseLeast_129 : decode cX4_raiseLeast 129 = .ok (.getfield 32, 3) := by decide +kernel
theorem dX4_raiseLeast_132 : decode cX4_raiseLeast 132 = .ok (.iload 6, 2) := by decide +kernel
theorem dX4_raiseLeast_134 : decode cX4_raiseLeast 134 = .ok (.isub, 1) := by decide +kernel
theorem dX4_raiseLeast_135 : decode cX4_raiseLeast 135 = .ok (.putfield 32, 3) := by decide +kernel
theorem dX4_raiseLeast_138 : decode cX4_raiseLeast 138 = .ok (.aload_n 0, 1) := by decide +kernel
theorem dX4_raiseLeast_139 : decode cX4_raiseLeast 139 = .ok (.getfield 9, 3) := by decide +kernel
theorem dX4_raiseLeast_142 : decode cX4_raiseLeast 142 = .ok (.iload 4, 2) := by decide +kernel
theorem dX4_raiseLeast_144 : decode cX4_raiseLeast 144 = .ok (.iload 6, 2) := by decide +kernel
theorem dX4_raiseLeast_146 : decode cX4_raiseLeast 146 = .ok (.aload_n 0, 1) := by decide +kernel
theorem dX4_raiseLeast_147 : decode cX4_raiseLeast 147 = .ok (.getfield 28, 3) := by decide +kernel
theorem dX4_raiseLeast_150 : decode cX4_raiseLeast 150 = .ok (.aload_n 0, 1) := by decide +kernel
theorem dX4_raiseLeast_151 : decode cX4_raiseLeast 151 = .ok (.getfield 9, 3) := by decide +kernel
theorem dX4_raiseLeast_154 : decode cX4_raiseLeast 154 = .ok (.iload 4, 2) := by decide +kernel
theorem dX4_raiseLeast_156 : decode cX4_raiseLeast 156 = .ok (.iaload, 1) := by decide +kernel
theorem dX4_raiseLeast_157 : decode cX4_raiseLeast 157 = .ok (.isub, 1) := by decide +kernel
theorem dX4_raiseLeast_158 : decode cX4_raiseLeast 158 = .ok (.if_icmp .le 10, 3) := by decide +kernel
theorem dX4_raiseLeast_161 : decode cX4_raiseLeast 161 = .ok (.aload_n 0, 1) := by decide +kernel
theorem dX4_raiseLeast_162 : decode cX4_raiseLeast 162 = .ok (.getfield 28, 3) := by decide +kernel
theorem dX4_raiseLeast_165 : decode cX4_raiseLeast 165 = .ok (.goto 13, 3) := by decide +kernel
theorem dX4_raiseLeast_168 : decode cX4_raiseLeast 168 = .ok (.aload_n 0, 1) := by decide +kernel
theorem dX4_raiseLeast_169 : decode cX4_raiseLeast 169 = .ok (.getfield 9, 3) := by decide +kernel
theorem dX4_raiseLeast_172 : decode cX4_raiseLeast 172 = .ok (.iload 4, 2) := by decide +kernel
theorem dX4_raiseLeast_174 : decode cX4_raiseLeast 174 = .ok (.iaload, 1) := by decide +kernel
theorem dX4_raiseLeast_175 : decode cX4_raiseLeast 175 = .ok (.iload 6, 2) := by decide +kernel
theorem dX4_raiseLeast_177 : decode cX4_raiseLeast 177 = .ok (.iadd, 1) := by decide +kernel
theorem dX4_raiseLeast_178 : decode cX4_raiseLeast 178 = .ok (.iastore, 1) := by decide +kernel
theorem dX4_raiseLeast_179 : decode cX4_raiseLeast 179 = .ok (.return_, 1) := by decide +kernel
theorem dX5_begin_0 : decode cX5_begin 0 = .ok (.aload_n 0, 1) := by decide +kernel
theorem dX5_begin_1 : decode cX5_begin 1 = .ok (.iconst 1, 1) := by decide +kernel
theorem dX5_begin_2 : decode cX5_begin 2 = .ok (.putfield 15, 3) := by decide +kernel
theorem dX5_begin_5 : decode cX5_begin 5 = .ok (.aload_n 0, 1) := by decide +kernel
theorem dX5_begin_6 : decode cX5_begin 6 = .ok (.iload_n 1, 1) := by decide +kernel
theorem dX5_begin_7 : decode cX5_begin 7 = .ok (.putfield 19, 3) := by decide +kernel
theorem dX5_begin_10 : decode cX5_begin 10 = .ok (.aload_n 0, 1) := by decide +kernel
theorem dX5_begin_11 : decode cX5_begin 11 = .ok (.iload_n 2, 1) := by decide +kernel
theorem dX5_begin_12 : decode cX5_begin 12 = .ok (.putfield 23, 3) := by decide +kernel
theorem dX5_begin_15 : decode cX5_begin 15 = .ok (.iconst 0, 1) := by decide +kernel
theorem dX5_begin_16 : decode cX5_begin 16 = .ok (.istore_n 3, 1) := by decide +kernel
theorem dX5_begin_17 : decode cX5_begin 17 = .ok (.iload_n 3, 1) := by decide +kernel
theorem dX5_begin_18 : decode cX5_begin 18 = .ok (.bipush 60, 2) := by decide +kernel
theorem dX5_begin_20 : decode cX5_begin 20 = .ok (.if_icmp .ge 16, 3) := by decide +kernel
theorem dX5_begin_23 : decode cX5_begin 23 = .ok (.aload_n 0, 1) := by decide +kernel
theorem dX5_begin_24 : decode cX5_begin 24 = .ok (.getfield 9, 3) := by decide +kernel
theorem dX5_begin_27 : decode cX5_begin 27 = .ok (.iload_n 3, 1) := by decide +kernel
theorem dX5_begin_28 : decode cX5_begin 28 = .ok (.lconst 0, 1) := by decide +kernel
theorem dX5_begin_29 : decode cX5_begin 29 = .ok (.lastore, 1) := by decide +kernel
theorem dX5_begin_30 : decode cX5_begin 30 = .ok (.iinc 3 1, 3) := by decide +kernel
theorem dX5_begin_33 : decode cX5_begin 33 = .ok (.goto (-16), 3) := by decide +kernel
theorem dX5_begin_36 : decode cX5_begin 36 = .ok (.return_, 1) := by decide +kernel
theorem dX5_put_0 : decode cX5_put 0 = .ok (.aload_n 0, 1) := by decide +kernel
theorem dX5_put_1 : decode cX5_put 1 = .ok (.getfield 19, 3) := by decide +kernel
theorem dX5_put_4 : decode cX5_put 4 = .ok (.tableswitch 66 0 2 #[28, 41, 54], 28) := by decide +kernel
theorem dX5_put_32 : decode cX5_put 32 = .ok (.aload_n 0, 1) := by decide +kernel
theorem dX5_put_33 : decode cX5_put 33 = .ok (.getfield 9, 3) := by decide +kernel
theorem dX5_put_36 : decode cX5_put 36 = .ok (.iload_n 1, 1) := by decide +kernel
theorem dX5_put_37 : decode cX5_put 37 = .ok (.lload_n 2, 1) := by decide +kernel
theorem dX5_put_38 : decode cX5_put 38 = .ok (.l2i, 1) := by decide +kernel
theorem dX5_put_39 : decode cX5_put 39 = .ok (.i2b, 1) := by decide +kernel
theorem dX5_put_40 : decode cX5_put 40 = .ok (.i2l, 1) := by decide +kernel
theorem dX5_put_41 : decode cX5_put 41 = .ok (.lastore, 1) := by decide +kernel
theorem dX5_put_42 : decode cX5_put 42 = .ok (.goto 35, 3) := by decide +kernel
theorem dX5_put_45 : decode cX5_put 45 = .ok (.aload_n 0, 1) := by decide +kernel
theorem dX5_put_46 : decode cX5_put 46 = .ok (.getfield 9, 3) := by decide +kernel
theorem dX5_put_49 : decode cX5_put 49 = .ok (.iload_n 1, 1) := by decide +kernel
theorem dX5_put_50 : decode cX5_put 50 = .ok (.lload_n 2, 1) := by decide +kernel
theorem dX5_put_51 : decode cX5_put 51 = .ok (.l2i, 1) := by decide +kernel
theorem dX5_put_52 : decode cX5_put 52 = .ok (.i2s, 1) := by decide +kernel
theorem dX5_put_53 : decode cX5_put 53 = .ok (.i2l, 1) := by decide +kernel
theorem dX5_put_54 : decode cX5_put 54 = .ok (.lastore, 1) := by decide +kernel
theorem dX5_put_55 : decode cX5_put 55 = .ok (.goto 22, 3) := by decide +kernel
theorem dX5_put_58 : decode cX5_put 58 = .ok (.aload_n 0, 1) := by decide +kernel
theorem dX5_put_59 : decode cX5_put 59 = .ok (.getfield 9, 3) := by decide +kernel
theorem dX5_put_62 : decode cX5_put 62 = .ok (.iload_n 1, 1) := by decide +kernel
theorem dX5_put_63 : decode cX5_put 63 = .ok (.lload_n 2, 1) := by decide +kernel
theorem dX5_put_64 : decode cX5_put 64 = .ok (.l2i, 1) := by decide +kernel
theorem dX5_put_65 : decode cX5_put 65 = .ok (.i2l, 1) := by decide +kernel
theorem dX5_put_66 : decode cX5_put 66 = .ok (.lastore, 1) := by decide +kernel
theorem dX5_put_67 : decode cX5_put 67 = .ok (.goto 10, 3) := by decide +kernel
theorem dX5_put_70 : decode cX5_put 70 = .ok (.aload_n 0, 1) := by decide +kernel
theorem dX5_put_71 : decode cX5_put 71 = .ok (.getfield 9, 3) := by decide +kernel
theorem dX5_put_74 : decode cX5_put 74 = .ok (.iload_n 1, 1) := by decide +kernel
theorem dX5_put_75 : decode cX5_put 75 = .ok (.lload_n 2, 1) := by decide +kernel
theorem dX5_put_76 : decode cX5_put 76 = .ok (.lastore, 1) := by decide +kernel
theorem dX5_put_77 : decode cX5_put 77 = .ok (.return_, 1) := by decide +kernel
theorem dX5_spans_0 : decode cX5_spans 0 = .ok (.iload_n 1, 1) := by decide +kernel
theorem dX5_spans_1 : decode cX5_spans 1 = .ok (.ifCond .lt 29, 3) := by decide +kernel
theorem dX5_spans_4 : decode cX5_spans 4 = .ok (.iload_n 2, 1) := by decide +kernel
theorem dX5_spans_5 : decode cX5_spans 5 = .ok (.ifCond .lt 25, 3) := by decide +kernel
theorem dX5_spans_8 : decode cX5_spans 8 = .ok (.iload_n 2, 1) := by decide +kernel
theorem dX5_spans_9 : decode cX5_spans 9 = .ok (.aload_n 0, 1) := by decide +kernel
theorem dX5_spans_10 : decode cX5_spans 10 = .ok (.getfield 23, 3) := by decide +kernel
theorem dX5_spans_13 : decode cX5_spans 13 = .ok (.if_icmp .gt 17, 3) := by decide +kernel
theorem dX5_spans_16 : decode cX5_spans 16 = .ok (.iload_n 1, 1) := by decide +kernel
theorem dX5_spans_17 : decode cX5_spans 17 = .ok (.aload_n 0, 1) := by decide +kernel
theorem dX5_spans_18 : decode cX5_spans 18 = .ok (.getfield 23, 3) := by decide +kernel
theorem dX5_spans_21 : decode cX5_spans 21 = .ok (.iload_n 2, 1) := by decide +kernel
theorem dX5_spans_22 : decode cX5_spans 22 = .ok (.isub, 1) := by decide +kernel
theorem dX5_spans_23 : decode cX5_spans 23 = .ok (.if_icmp .gt 7, 3) := by decide +kernel
theorem dX5_spans_26 : decode cX5_spans 26 = .ok (.iconst 1, 1) := by decide +kernel
theorem dX5_spans_27 : decode cX5_spans 27 = .ok (.goto 4, 3) := by decide +kernel
theorem dX5_spans_30 : decode cX5_spans 30 = .ok (.iconst 0, 1) := by decide +kernel
