theorem dX10_total_10 : decode cX10_total 10 = .ok (.i2l, 1) := by decide +kernel
theorem dX10_total_11 : decode cX10_total 11 = .ok (.lconst 1, 1) := by decide +kernel
theorem dX10_total_12 : decode cX10_total 12 = .ok (.ldc2_w 287, 3) := by decide +kernel
theorem dX10_total_15 : decode cX10_total 15 = .ok (.invokestatic 98, 3) := by decide +kernel
theorem dX10_total_18 : decode cX10_total 18 = .ok (.ifCond .eq 13, 3) := by decide +kernel
theorem dX10_total_21 : decode cX10_total 21 = .ok (.aload_n 0, 1) := by decide +kernel
theorem dX10_total_22 : decode cX10_total 22 = .ok (.iload_n 1, 1) := by decide +kernel
theorem dX10_total_23 : decode cX10_total 23 = .ok (.iload_n 2, 1) := by decide +kernel
theorem dX10_total_24 : decode cX10_total 24 = .ok (.iload_n 3, 1) := by decide +kernel
theorem dX10_total_25 : decode cX10_total 25 = .ok (.invokevirtual 453, 3) := by decide +kernel
theorem dX10_total_28 : decode cX10_total 28 = .ok (.goto 6, 3) := by decide +kernel
theorem dX10_total_31 : decode cX10_total 31 = .ok (.ldc_w 388, 3) := by decide +kernel
theorem dX10_total_34 : decode cX10_total 34 = .ok (.ireturn, 1) := by decide +kernel
theorem dX10_way_0 : decode cX10_way 0 = .ok (.aload_n 0, 1) := by decide +kernel
theorem dX10_way_1 : decode cX10_way 1 = .ok (.iload_n 1, 1) := by decide +kernel
theorem dX10_way_2 : decode cX10_way 2 = .ok (.invokevirtual 106, 3) := by decide +kernel
theorem dX10_way_5 : decode cX10_way 5 = .ok (.ifCond .eq 15, 3) := by decide +kernel
theorem dX10_way_8 : decode cX10_way 8 = .ok (.iload_n 2, 1) := by decide +kernel
theorem dX10_way_9 : decode cX10_way 9 = .ok (.i2l, 1) := by decide +kernel
theorem dX10_way_10 : decode cX10_way 10 = .ok (.lconst 1, 1) := by decide +kernel
theorem dX10_way_11 : decode cX10_way 11 = .ok (.ldc2_w 287, 3) := by decide +kernel
theorem dX10_way_14 : decode cX10_way 14 = .ok (.invokestatic 98, 3) := by decide +kernel
theorem dX10_way_17 : decode cX10_way 17 = .ok (.ifCond .ne 6, 3) := by decide +kernel
theorem dX10_way_20 : decode cX10_way 20 = .ok (.bipush (-2), 2) := by decide +kernel
theorem dX10_way_22 : decode cX10_way 22 = .ok (.ireturn, 1) := by decide +kernel
theorem dX10_way_23 : decode cX10_way 23 = .ok (.iconst 0, 1) := by decide +kernel
theorem dX10_way_24 : decode cX10_way 24 = .ok (.istore_n 3, 1) := by decide +kernel
theorem dX10_way_25 : decode cX10_way 25 = .ok (.aload_n 0, 1) := by decide +kernel
theorem dX10_way_26 : decode cX10_way 26 = .ok (.iload_n 1, 1) := by decide +kernel
theorem dX10_way_27 : decode cX10_way 27 = .ok (.iconst 0, 1) := by decide +kernel
theorem dX10_way_28 : decode cX10_way 28 = .ok (.iload_n 2, 1) := by decide +kernel
theorem dX10_way_29 : decode cX10_way 29 = .ok (.invokevirtual 453, 3) := by decide +kernel
theorem dX10_way_32 : decode cX10_way 32 = .ok (.istore 4, 2) := by decide +kernel
theorem dX10_way_34 : decode cX10_way 34 = .ok (.iconst 1, 1) := by decide +kernel
theorem dX10_way_35 : decode cX10_way 35 = .ok (.istore 5, 2) := by decide +kernel
theorem dX10_way_37 : decode cX10_way 37 = .ok (.iload 5, 2) := by decide +kernel
theorem dX10_way_39 : decode cX10_way 39 = .ok (.iconst 5, 1) := by decide +kernel
theorem dX10_way_40 : decode cX10_way 40 = .ok (.if_icmp .gt 36, 3) := by decide +kernel
theorem dX10_way_43 : decode cX10_way 43 = .ok (.aload_n 0, 1) := by decide +kernel
theorem dX10_way_44 : decode cX10_way 44 = .ok (.iload_n 1, 1) := by decide +kernel
theorem dX10_way_45 : decode cX10_way 45 = .ok (.iload 5, 2) := by decide +kernel
theorem dX10_way_47 : decode cX10_way 47 = .ok (.iload_n 2, 1) := by decide +kernel
theorem dX10_way_48 : decode cX10_way 48 = .ok (.invokevirtual 453, 3) := by decide +kernel
theorem dX10_way_51 : decode cX10_way 51 = .ok (.istore 6, 2) := by decide +kernel
theorem dX10_way_53 : decode cX10_way 53 = .ok (.iload 6, 2) := by decide +kernel
theorem dX10_way_55 : decode cX10_way 55 = .ok (.iload 4, 2) := by decide +kernel
theorem dX10_way_57 : decode cX10_way 57 = .ok (.if_icmp .gt 6, 3) := by decide +kernel
theorem dX10_way_60 : decode cX10_way 60 = .ok (.goto 10, 3) := by decide +kernel
theorem dX10_way_63 : decode cX10_way 63 = .ok (.iload 5, 2) := by decide +kernel
theorem dX10_way_65 : decode cX10_way 65 = .ok (.istore_n 3, 1) := by decide +kernel
theorem dX10_way_66 : decode cX10_way 66 = .ok (.iload 6, 2) := by decide +kernel
theorem dX10_way_68 : decode cX10_way 68 = .ok (.istore 4, 2) := by decide +kernel
theorem dX10_way_70 : decode cX10_way 70 = .ok (.iinc 5 1, 3) := by decide +kernel
theorem dX10_way_73 : decode cX10_way 73 = .ok (.goto (-36), 3) := by decide +kernel
theorem dX10_way_76 : decode cX10_way 76 = .ok (.iload_n 3, 1) := by decide +kernel
theorem dX10_way_77 : decode cX10_way 77 = .ok (.ireturn, 1) := by decide +kernel
theorem dX10_turnsTo_0 : decode cX10_turnsTo 0 = .ok (.aload_n 0, 1) := by decide +kernel
theorem dX10_turnsTo_1 : decode cX10_turnsTo 1 = .ok (.iload_n 1, 1) := by decide +kernel
theorem dX10_turnsTo_2 : decode cX10_turnsTo 2 = .ok (.iload_n 2, 1) := by decide +kernel
theorem dX10_turnsTo_3 : decode cX10_turnsTo 3 = .ok (.invokevirtual 450, 3) := by decide +kernel
theorem dX10_turnsTo_6 : decode cX10_turnsTo 6 = .ok (.ifCond .ne 6, 3) := by decide +kernel
theorem dX10_turnsTo_9 : decode cX10_turnsTo 9 = .ok (.bipush (-2), 2) := by decide +kernel
theorem dX10_turnsTo_11 : decode cX10_turnsTo 11 = .ok (.ireturn, 1) := by decide +kernel
theorem dX10_turnsTo_12 : decode cX10_turnsTo 12 = .ok (.aload_n 0, 1) := by decide +kernel
theorem dX10_turnsTo_13 : decode cX10_turnsTo 13 = .ok (.iload_n 1, 1) := by decide +kernel
theorem dX10_turnsTo_14 : decode cX10_turnsTo 14 = .ok (.iconst 2, 1) := by decide +kernel
theorem dX10_turnsTo_15 : decode cX10_turnsTo 15 = .ok (.invokevirtual 276, 3) := by decide +kernel
theorem dX10_turnsTo_18 : decode cX10_turnsTo 18 = .ok (.istore_n 3, 1) := by decide +kernel
theorem dX10_turnsTo_19 : decode cX10_turnsTo 19 = .ok (.aload_n 0, 1) := by decide +kernel
theorem dX10_turnsTo_20 : decode cX10_turnsTo 20 = .ok (.iload_n 1, 1) := by decide +kernel
theorem dX10_turnsTo_21 : decode cX10_turnsTo 21 = .ok (.iload_n 2, 1) := by decide +kernel
theorem dX10_turnsTo_22 : decode cX10_turnsTo 22 = .ok (.invokevirtual 447, 3) := by decide +kernel
theorem dX10_turnsTo_25 : decode cX10_turnsTo 25 = .ok (.iload_n 3, 1) := by decide +kernel
theorem dX10_turnsTo_26 : decode cX10_turnsTo 26 = .ok (.ireturn, 1) := by decide +kernel
theorem dX10_idle_0 : decode cX10_idle 0 = .ok (.aload_n 0, 1) := by decide +kernel
theorem dX10_idle_1 : decode cX10_idle 1 = .ok (.iload_n 1, 1) := by decide +kernel
theorem dX10_idle_2 : decode cX10_idle 2 = .ok (.invokevirtual 439, 3) := by decide +kernel
theorem dX10_idle_5 : decode cX10_idle 5 = .ok (.ifCond .ne 6, 3) := by decide +kernel
theorem dX10_idle_8 : decode cX10_idle 8 = .ok (.bipush (-2), 2) := by decide +kernel
theorem dX10_idle_10 : decode cX10_idle 10 = .ok (.ireturn, 1) := by decide +kernel
theorem dX10_idle_11 : decode cX10_idle 11 = .ok (.aload_n 0, 1) := by decide +kernel
theorem dX10_idle_12 : decode cX10_idle 12 = .ok (.invokevirtual 360, 3) := by decide +kernel
theorem dX10_idle_15 : decode cX10_idle 15 = .ok (.aload_n 0, 1) := by decide +kernel
theorem dX10_idle_16 : decode cX10_idle 16 = .ok (.iload_n 1, 1) := by decide +kernel
theorem dX10_idle_17 : decode cX10_idle 17 = .ok (.invokevirtual 442, 3) := by decide +kernel
theorem dX10_idle_20 : decode cX10_idle 20 = .ok (.pop, 1) := by decide +kernel
theorem dX10_idle_21 : decode cX10_idle 21 = .ok (.aload_n 0, 1) := by decide +kernel
theorem dX10_idle_22 : decode cX10_idle 22 = .ok (.invokevirtual 367, 3) := by decide +kernel
theorem dX10_idle_25 : decode cX10_idle 25 = .ok (.aload_n 0, 1) := by decide +kernel
theorem dX10_idle_26 : decode cX10_idle 26 = .ok (.getfield 433, 3) := by decide +kernel
theorem dX10_idle_29 : decode cX10_idle 29 = .ok (.ireturn, 1) := by decide +kernel
theorem dX10_spreadOf_0 : decode cX10_spreadOf 0 = .ok (.iconst 0, 1) := by decide +kernel
theorem dX10_spreadOf_1 : decode cX10_spreadOf 1 = .ok (.istore_n 1, 1) := by decide +kernel
theorem dX10_spreadOf_2 : decode cX10_spreadOf 2 = .ok (.iconst 0, 1) := by decide +kernel
theorem dX10_spreadOf_3 : decode cX10_spreadOf 3 = .ok (.istore_n 2, 1) := by decide +kernel
theorem dX10_spreadOf_4 : decode cX10_spreadOf 4 = .ok (.iload_n 2, 1) := by decide +kernel
theorem dX10_spreadOf_5 : decode cX10_spreadOf 5 = .ok (.aload_n 0, 1) := by decide +kernel
theorem dX10_spreadOf_6 : decode cX10_spreadOf 6 = .ok (.invokevirtual 295, 3) := by decide +kernel
theorem dX10_spreadOf_9 : decode cX10_spreadOf 9 = .ok (.if_icmp .ge 41, 3) := by decide +kernel
theorem dX10_spreadOf_12 : decode cX10_spreadOf 12 = .ok (.iconst 0, 1) := by decide +kernel
theorem dX10_spreadOf_13 : decode cX10_spreadOf 13 = .ok (.istore_n 3, 1) := by decide +kernel
theorem dX10_spreadOf_14 : decode cX10_spreadOf 14 = .ok (.iload_n 3, 1) := by decide +kernel
theorem dX10_spreadOf_15 : decode cX10_spreadOf 15 = .ok (.iload_n 2, 1) := by decide +kernel
theorem dX10_spreadOf_16 : decode cX10_spreadOf 16 = .ok (.if_icmp .ge 28, 3) := by decide +kernel
theorem dX10_spreadOf_19 : decode cX10_spreadOf 19 = .ok (.iload_n 1, 1) := by decide +kernel
theorem dX10_spreadOf_20 : decode cX10_spreadOf 20 = .ok (.aload_n 0, 1) := by decide +kernel
theorem dX10_spreadOf_21 : decode cX10_spreadOf 21 = .ok (.iload_n 2, 1) := by decide +kernel
theorem dX10_spreadOf_22 : decode cX10_spreadOf 22 = .ok (.iconst 0, 1) := by decide +kernel
theorem dX10_spreadOf_23 : decode cX10_spreadOf 23 = .ok (.invokevirtual 276, 3) := by decide +kernel
theorem dX10_spreadOf_26 : decode cX10_spreadOf 26 = .ok (.aload_n 0, 1) := by decide +kernel
theorem dX10_spreadOf_27 : decode cX10_spreadOf 27 = .ok (.iload_n 3, 1) := by decide +kernel
theorem dX10_spreadOf_28 : decode cX10_spreadOf 28 = .ok (.iconst 0, 1) := by decide +kernel
theorem dX10_spreadOf_29 : decode cX10_spreadOf 29 = .ok (.invokevirtual 276, 3) := by decide +kernel
theorem dX10_spreadOf_32 : decode cX10_spreadOf 32 = .ok (.isub, 1) := by decide +kernel
theorem dX10_spreadOf_33 : decode cX10_spreadOf 33 = .ok (.invokestatic 457, 3) := by decide +kernel
theorem dX10_spreadOf_36 : decode cX10_spreadOf 36 = .ok (.iadd, 1) := by decide +kernel
theorem dX10_spreadOf_37 : decode cX10_spreadOf 37 = .ok (.istore_n 1, 1) := by decide +kernel
theorem dX10_spreadOf_38 : decode cX10_spreadOf 38 = .ok (.iinc 3 1, 3) := by decide +kernel
theorem dX10_spreadOf_41 : decode cX10_spreadOf 41 = .ok (.goto (-27), 3) := by decide +kernel
theorem dX10_spreadOf_44 : decode cX10_spreadOf 44 = .ok (.iinc 2 1, 3) := by decide +kernel
theorem dX10_spreadOf_47 : decode cX10_spreadOf 47 = .ok (.goto (-43), 3) := by decide +kernel
theorem dX10_spreadOf_50 : decode cX10_spreadOf 50 = .ok (.iload_n 1, 1) := by decide +kernel
theorem dX10_spreadOf_51 : decode cX10_spreadOf 51 = .ok (.ireturn, 1) := by decide +kernel
theorem dX10_spread_0 : decode cX10_spread 0 = .ok (.aload_n 0, 1) := by decide +kernel
theorem dX10_spread_1 : decode cX10_spread 1 = .ok (.invokevirtual 460, 3) := by decide +kernel
theorem dX10_spread_4 : decode cX10_spread 4 = .ok (.ireturn, 1) := by decide +kernel
theorem dX10_goods_0 : decode cX10_goods 0 = .ok (.iconst 0, 1) := by decide +kernel
theorem dX10_goods_1 : decode cX10_goods 1 = .ok (.istore_n 1, 1) := by decide +kernel
theorem dX10_goods_2 : decode cX10_goods 2 = .ok (.iconst 0, 1) := by decide +kernel
theorem dX10_goods_3 : decode cX10_goods 3 = .ok (.istore_n 2, 1) := by decide +kernel
theorem dX10_goods_4 : decode cX10_goods 4 = .ok (.iload_n 2, 1) := by decide +kernel
theorem dX10_goods_5 : decode cX10_goods 5 = .ok (.aload_n 0, 1) := by decide +kernel
theorem dX10_goods_6 : decode cX10_goods 6 = .ok (.invokevirtual 295, 3) := by decide +kernel
theorem dX10_goods_9 : decode cX10_goods 9 = .ok (.if_icmp .ge 18, 3) := by decide +kernel
theorem dX10_goods_12 : decode cX10_goods 12 = .ok (.iload_n 1, 1) := by decide +kernel
theorem dX10_goods_13 : decode cX10_goods 13 = .ok (.aload_n 0, 1) := by decide +kernel
theorem dX10_goods_14 : decode cX10_goods 14 = .ok (.iload_n 2, 1) := by decide +kernel
theorem dX10_goods_15 : decode cX10_goods 15 = .ok (.iconst 4, 1) := by decide +kernel
theorem dX10_goods_16 : decode cX10_goods 16 = .ok (.invokevirtual 276, 3) := by decide +kernel
theorem dX10_goods_19 : decode cX10_goods 19 = .ok (.iadd, 1) := by decide +kernel
theorem dX10_goods_20 : decode cX10_goods 20 = .ok (.istore_n 1, 1) := by decide +kernel
theorem dX10_goods_21 : decode cX10_goods 21 = .ok (.iinc 2 1, 3) := by decide +kernel
theorem dX10_goods_24 : decode cX10_goods 24 = .ok (.goto (-20), 3) := by decide +kernel
theorem dX10_goods_27 : decode cX10_goods 27 = .ok (.iload_n 1, 1) := by decide +kernel
theorem dX10_goods_28 : decode cX10_goods 28 = .ok (.ireturn, 1) := by decide +kernel
theorem dX10_beside_0 : decode cX10_beside 0 = .ok (.aload_n 0, 1) := by decide +kernel
theorem dX10_beside_1 : decode cX10_beside 1 = .ok (.iload_n 1, 1) := by decide +kernel
theorem dX10_beside_2 : decode cX10_beside 2 = .ok (.invokevirtual 439, 3) := by decide +kernel
theorem dX10_beside_5 : decode cX10_beside 5 = .ok (.ifCond .eq 15, 3) := by decide +kernel
theorem dX10_beside_8 : decode cX10_beside 8 = .ok (.iload_n 2, 1) := by decide +kernel
theorem dX10_beside_9 : decode cX10_beside 9 = .ok (.i2l, 1) := by decide +kernel
theorem dX10_beside_10 : decode cX10_beside 10 = .ok (.lconst 0, 1) := by decide +kernel
theorem dX10_beside_11 : decode cX10_beside 11 = .ok (.ldc2_w 398, 3) := by decide +kernel
theorem dX10_beside_14 : decode cX10_beside 14 = .ok (.invokestatic 98, 3) := by decide +kernel
theorem dX10_beside_17 : decode cX10_beside 17 = .ok (.ifCond .ne 7, 3) := by decide +kernel
theorem dX10_beside_20 : decode cX10_beside 20 = .ok (.ldc_w 388, 3) := by decide +kernel
theorem dX10_beside_23 : decode cX10_beside 23 = .ok (.ireturn, 1) := by decide +kernel
theorem dX10_beside_24 : decode cX10_beside 24 = .ok (.aload_n 0, 1) := by decide +kernel
theorem dX10_beside_25 : decode cX10_beside 25 = .ok (.invokevirtual 463, 3) := by decide +kernel
theorem dX10_beside_28 : decode cX10_beside 28 = .ok (.istore_n 3, 1) := by decide +kernel
theorem dX10_beside_29 : decode cX10_beside 29 = .ok (.aload_n 0, 1) := by decide +kernel
theorem dX10_beside_30 : decode cX10_beside 30 = .ok (.invokevirtual 360, 3) := by decide +kernel
theorem dX10_beside_33 : decode cX10_beside 33 = .ok (.aload_n 0, 1) := by decide +kernel
theorem dX10_beside_34 : decode cX10_beside 34 = .ok (.getfield 13, 3) := by decide +kernel
theorem dX10_beside_37 : decode cX10_beside 37 = .ok (.bipush 13, 2) := by decide +kernel
theorem dX10_beside_39 : decode cX10_beside 39 = .ok (.iload_n 2, 1) := by decide +kernel
theorem dX10_beside_40 : decode cX10_beside 40 = .ok (.iconst 1, 1) := by decide +kernel
theorem dX10_beside_41 : decode cX10_beside 41 = .ok (.if_icmp .eq 8, 3) := by decide +kernel
theorem dX10_beside_44 : decode cX10_beside 44 = .ok (.iload_n 2, 1) := by decide +kernel
theorem dX10_beside_45 : decode cX10_beside 45 = .ok (.iconst 4, 1) := by decide +kernel
theorem dX10_beside_46 : decode cX10_beside 46 = .ok (.if_icmp .ne 7, 3) := by decide +kernel
theorem dX10_beside_49 : decode cX10_beside 49 = .ok (.iconst 1, 1) := by decide +kernel
theorem dX10_beside_50 : decode cX10_beside 50 = .ok (.goto 4, 3) := by decide +kernel
theorem dX10_beside_53 : decode cX10_beside 53 = .ok (.iconst 0, 1) := by decide +kernel
theorem dX10_beside_54 : decode cX10_beside 54 = .ok (.iastore, 1) := by decide +kernel
theorem dX10_beside_55 : decode cX10_beside 55 = .ok (.aload_n 0, 1) := by decide +kernel
theorem dX10_beside_56 : decode cX10_beside 56 = .ok (.iload_n 1, 1) := by decide +kernel
theorem dX10_beside_57 : decode cX10_beside 57 = .ok (.invokevirtual 442, 3) := by decide +kernel
theorem dX10_beside_60 : decode cX10_beside 60 = .ok (.istore 4, 2) := by decide +kernel
theorem dX10_beside_62 : decode cX10_beside 62 = .ok (.iload_n 2, 1) := by decide +kernel
theorem dX10_beside_63 : decode cX10_beside 63 = .ok (.iconst 2, 1) := by decide +kernel
theorem dX10_beside_64 : decode cX10_beside 64 = .ok (.if_icmp .ge 10, 3) := by decide +kernel
theorem dX10_beside_67 : decode cX10_beside 67 = .ok (.aload_n 0, 1) := by decide +kernel
theorem dX10_beside_68 : decode cX10_beside 68 = .ok (.invokevirtual 460, 3) := by decide +kernel
theorem dX10_beside_71 : decode cX10_beside 71 = .ok (.goto 19, 3) := by decide +kernel
theorem dX10_beside_74 : decode cX10_beside 74 = .ok (.iload_n 2, 1) := by decide +kernel
theorem dX10_beside_75 : decode cX10_beside 75 = .ok (.iconst 2, 1) := by decide +kernel
theorem dX10_beside_76 : decode cX10_beside 76 = .ok (.if_icmp .ne 8, 3) := by decide +kernel
theorem dX10_beside_79 : decode cX10_beside 79 = .ok (.iload 4, 2) := by decide +kernel
theorem dX10_beside_81 : decode cX10_beside 81 = .ok (.goto 9, 3) := by decide +kernel
theorem dX10_beside_84 : decode cX10_beside 84 = .ok (.aload_n 0, 1) := by decide +kernel
theorem dX10_beside_85 : decode cX10_beside 85 = .ok (.invokevirtual 463, 3) := by decide +kernel
theorem dX10_beside_88 : decode cX10_beside 88 = .ok (.iload_n 3, 1) := by decide +kernel
theorem dX10_beside_89 : decode cX10_beside 89 = .ok (.isub, 1) := by decide +kernel
theorem dX10_beside_90 : decode cX10_beside 90 = .ok (.istore 5, 2) := by decide +kernel
theorem dX10_beside_92 : decode cX10_beside 92 = .ok (.aload_n 0, 1) := by decide +kernel
theorem dX10_beside_93 : decode cX10_beside 93 = .ok (.invokevirtual 367, 3) := by decide +kernel
theorem dX10_beside_96 : decode cX10_beside 96 = .ok (.iload 5, 2) := by decide +kernel
theorem dX10_beside_98 : decode cX10_beside 98 = .ok (.ireturn, 1) := by decide +kernel
theorem dX10_law_0 : decode cX10_law 0 = .ok (.aload_n 0, 1) := by decide +kernel
theorem dX10_law_1 : decode cX10_law 1 = .ok (.getfield 13, 3) := by decide +kernel
theorem dX10_law_4 : decode cX10_law 4 = .ok (.iconst 1, 1) := by decide +kernel
theorem dX10_law_5 : decode cX10_law 5 = .ok (.iaload, 1) := by decide +kernel
theorem dX10_law_6 : decode cX10_law 6 = .ok (.ifCond .eq 41, 3) := by decide +kernel
theorem dX10_law_9 : decode cX10_law 9 = .ok (.iload_n 1, 1) := by decide +kernel
theorem dX10_law_10 : decode cX10_law 10 = .ok (.i2l, 1) := by decide +kernel
theorem dX10_law_11 : decode cX10_law 11 = .ok (.lconst 0, 1) := by decide +kernel
theorem dX10_law_12 : decode cX10_law 12 = .ok (.ldc2_w 287, 3) := by decide +kernel
theorem dX10_law_15 : decode cX10_law 15 = .ok (.invokestatic 98, 3) := by decide +kernel
theorem dX10_law_18 : decode cX10_law 18 = .ok (.ifCond .eq 29, 3) := by decide +kernel
theorem dX10_law_21 : decode cX10_law 21 = .ok (.iload_n 2, 1) := by decide +kernel
theorem dX10_law_22 : decode cX10_law 22 = .ok (.i2l, 1) := by decide +kernel
theorem dX10_law_23 : decode cX10_law 23 = .ok (.ldc2_w 96, 3) := by decide +kernel
theorem dX10_law_26 : decode cX10_law 26 = .ok (.ldc2_w 398, 3) := by decide +kernel
theorem dX10_law_29 : decode cX10_law 29 = .ok (.invokestatic 98, 3) := by decide +kernel
theorem dX10_law_32 : decode cX10_law 32 = .ok (.ifCond .eq 15, 3) := by decide +kernel
theorem dX10_law_35 : decode cX10_law 35 = .ok (.iload_n 3, 1) := by decide +kernel
theorem dX10_law_36 : decode cX10_law 36 = .ok (.i2l, 1) := by decide +kernel
theorem dX10_law_37 : decode cX10_law 37 = .ok (.lconst 0, 1) := by decide +kernel
theorem dX10_law_38 : decode cX10_law 38 = .ok (.ldc2_w 96, 3) := by decide +kernel
theorem dX10_law_41 : decode cX10_law 41 = .ok (.invokestatic 98, 3) := by decide +kernel
theorem dX10_law_44 : decode cX10_law 44 = .ok (.ifCond .ne 6, 3) := by decide +kernel
theorem dX10_law_47 : decode cX10_law 47 = .ok (.bipush (-2), 2) := by decide +kernel
theorem dX10_law_49 : decode cX10_law 49 = .ok (.ireturn, 1) := by decide +kernel
theorem dX10_law_50 : decode cX10_law 50 = .ok (.aload_n 0, 1) := by decide +kernel
theorem dX10_law_51 : decode cX10_law 51 = .ok (.getfield 13, 3) := by decide +kernel
theorem dX10_law_54 : decode cX10_law 54 = .ok (.iconst 2, 1) := by decide +kernel
theorem dX10_law_55 : decode cX10_law 55 = .ok (.iload_n 1, 1) := by decide +kernel
theorem dX10_law_56 : decode cX10_law 56 = .ok (.iastore, 1) := by decide +kernel
theorem dX10_law_57 : decode cX10_law 57 = .ok (.aload_n 0, 1) := by decide +kernel
theorem dX10_law_58 : decode cX10_law 58 = .ok (.getfield 13, 3) := by decide +kernel
theorem dX10_law_61 : decode cX10_law 61 = .ok (.iconst 3, 1) := by decide +kernel
theorem dX10_law_62 : decode cX10_law 62 = .ok (.iload_n 2, 1) := by decide +kernel
theorem dX10_law_63 : decode cX10_law 63 = .ok (.iastore, 1) := by decide +kernel
theorem dX10_law_64 : decode cX10_law 64 = .ok (.aload_n 0, 1) := by decide +kernel
theorem dX10_law_65 : decode cX10_law 65 = .ok (.getfield 13, 3) := by decide +kernel
theorem dX10_law_68 : decode cX10_law 68 = .ok (.iconst 4, 1) := by decide +kernel
theorem dX10_law_69 : decode cX10_law 69 = .ok (.iload_n 3, 1) := by decide +kernel
theorem dX10_law_70 : decode cX10_law 70 = .ok (.iastore, 1) := by decide +kernel
theorem dX10_law_71 : decode cX10_law 71 = .ok (.aload_n 0, 1) := by decide +kernel
theorem dX10_law_72 : decode cX10_law 72 = .ok (.getfield 13, 3) := by decide +kernel
theorem dX10_law_75 : decode cX10_law 75 = .ok (.iconst 5, 1) := by decide +kernel
theorem dX10_law_76 : decode cX10_law 76 = .ok (.iload 4, 2) := by decide +kernel
theorem dX10_law_78 : decode cX10_law 78 = .ok (.ifCond .eq 7, 3) := by decide +kernel
theorem dX10_law_81 : decode cX10_law 81 = .ok (.iconst 1, 1) := by decide +kernel
theorem dX10_law_82 : decode cX10_law 82 = .ok (.goto 4, 3) := by decide +kernel
theorem dX10_law_85 : decode cX10_law 85 = .ok (.iconst 0, 1) := by decide +kernel
theorem dX10_law_86 : decode cX10_law 86 = .ok (.iastore, 1) := by decide +kernel
theorem dX10_law_87 : decode cX10_law 87 = .ok (.iconst 0, 1) := by decide +kernel
theorem dX10_law_88 : decode cX10_law 88 = .ok (.ireturn, 1) := by decide +kernel
theorem dX10_laws_0 : decode cX10_laws 0 = .ok (.aload_n 0, 1) := by decide +kernel
theorem dX10_laws_1 : decode cX10_laws 1 = .ok (.iload_n 1, 1) := by decide +kernel
theorem dX10_laws_2 : decode cX10_laws 2 = .ok (.invokevirtual 439, 3) := by decide +kernel
theorem dX10_laws_5 : decode cX10_laws 5 = .ok (.ifCond .ne 6, 3) := by decide +kernel
theorem dX10_laws_8 : decode cX10_laws 8 = .ok (.bipush (-2), 2) := by decide +kernel
theorem dX10_laws_10 : decode cX10_laws 10 = .ok (.ireturn, 1) := by decide +kernel
theorem dX10_laws_11 : decode cX10_laws 11 = .ok (.iconst (-1), 1) := by decide +kernel
theorem dX10_laws_12 : decode cX10_laws 12 = .ok (.istore_n 2, 1) := by decide +kernel
theorem dX10_laws_13 : decode cX10_laws 13 = .ok (.iconst 0, 1) := by decide +kernel
theorem dX10_laws_14 : decode cX10_laws 14 = .ok (.istore_n 3, 1) := by decide +kernel
theorem dX10_laws_15 : decode cX10_laws 15 = .ok (.iconst 2, 1) := by decide +kernel
theorem dX10_laws_16 : decode cX10_laws 16 = .ok (.istore 4, 2) := by decide +kernel
theorem dX10_laws_18 : decode cX10_laws 18 = .ok (.iload 4, 2) := by decide +kernel
theorem dX10_laws_20 : decode cX10_laws 20 = .ok (.iconst 5, 1) := by decide +kernel
theorem dX10_laws_21 : decode cX10_laws 21 = .ok (.if_icmp .ge 57, 3) := by decide +kernel
theorem dX10_laws_24 : decode cX10_laws 24 = .ok (.aload_n 0, 1) := by decide +kernel
theorem dX10_laws_25 : decode cX10_laws 25 = .ok (.invokevirtual 360, 3) := by decide +kernel
theorem dX10_laws_28 : decode cX10_laws 28 = .ok (.aload_n 0, 1) := by decide +kernel
theorem dX10_laws_29 : decode cX10_laws 29 = .ok (.getfield 13, 3) := by decide +kernel
theorem dX10_laws_32 : decode cX10_laws 32 = .ok (.iconst 3, 1) := by decide +kernel
theorem dX10_laws_33 : decode cX10_laws 33 = .ok (.iload 4, 2) := by decide +kernel
theorem dX10_laws_35 : decode cX10_laws 35 = .ok (.iastore, 1) := by decide +kernel
theorem dX10_laws_36 : decode cX10_laws 36 = .ok (.aload_n 0, 1) := by decide +kernel
theorem dX10_laws_37 : decode cX10_laws 37 = .ok (.iload_n 1, 1) := by decide +kernel
theorem dX10_laws_38 : decode cX10_laws 38 = .ok (.invokevirtual 442, 3) := by decide +kernel
theorem dX10_laws_41 : decode cX10_laws 41 = .ok (.pop, 1) := by decide +kernel
theorem dX10_laws_42 : decode cX10_laws 42 = .ok (.aload_n 0, 1) := by decide +kernel
theorem dX10_laws_43 : decode cX10_laws 43 = .ok (.invokevirtual 460, 3) := by decide +kernel
theorem dX10_laws_46 : decode cX10_laws 46 = .ok (.istore 5, 2) := by decide +kernel
theorem dX10_laws_48 : decode cX10_laws 48 = .ok (.aload_n 0, 1) := by decide +kernel
theorem dX10_laws_49 : decode cX10_laws 49 = .ok (.invokevirtual 367, 3) := by decide +kernel
theorem dX10_laws_52 : decode cX10_laws 52 = .ok (.iload_n 2, 1) := by decide +kernel
theorem dX10_laws_53 : decode cX10_laws 53 = .ok (.iconst (-1), 1) := by decide +kernel
theorem dX10_laws_54 : decode cX10_laws 54 = .ok (.if_icmp .eq 12, 3) := by decide +kernel
theorem dX10_laws_57 : decode cX10_laws 57 = .ok (.iload 5, 2) := by decide +kernel
theorem dX10_laws_59 : decode cX10_laws 59 = .ok (.iload_n 3, 1) := by decide +kernel
theorem dX10_laws_60 : decode cX10_laws 60 = .ok (.if_icmp .lt 6, 3) := by decide +kernel
theorem dX10_laws_63 : decode cX10_laws 63 = .ok (.goto 9, 3) := by decide +kernel
theorem dX10_laws_66 : decode cX10_laws 66 = .ok (.iload 4, 2) := by decide +kernel
theorem dX10_laws_68 : decode cX10_laws 68 = .ok (.istore_n 2, 1) := by decide +kernel
theorem dX10_laws_69 : decode cX10_laws 69 = .ok (.iload 5, 2) := by decide +kernel
theorem dX10_laws_71 : decode cX10_laws 71 = .ok (.istore_n 3, 1) := by decide +kernel
theorem dX10_laws_72 : decode cX10_laws 72 = .ok (.iinc 4 1, 3) := by decide +kernel
theorem dX10_laws_75 : decode cX10_laws 75 = .ok (.goto (-57), 3) := by decide +kernel
theorem dX10_laws_78 : decode cX10_laws 78 = .ok (.iload_n 2, 1) := by decide +kernel
theorem dX10_laws_79 : decode cX10_laws 79 = .ok (.ireturn, 1) := by decide +kernel
theorem dX10_leaves_0 : decode cX10_leaves 0 = .ok (.aload_n 0, 1) := by decide +kernel
theorem dX10_leaves_1 : decode cX10_leaves 1 = .ok (.iload_n 1, 1) := by decide +kernel
theorem dX10_leaves_2 : decode cX10_leaves 2 = .ok (.iload_n 2, 1) := by decide +kernel
theorem dX10_leaves_3 : decode cX10_leaves 3 = .ok (.invokevirtual 289, 3) := by decide +kernel
theorem dX10_leaves_6 : decode cX10_leaves 6 = .ok (.ifCond .ne 6, 3) := by decide +kernel
theorem dX10_leaves_9 : decode cX10_leaves 9 = .ok (.bipush (-2), 2) := by decide +kernel
theorem dX10_leaves_11 : decode cX10_leaves 11 = .ok (.ireturn, 1) := by decide +kernel
theorem dX10_leaves_12 : decode cX10_leaves 12 = .ok (.aload_n 0, 1) := by decide +kernel
theorem dX10_leaves_13 : decode cX10_leaves 13 = .ok (.iload_n 1, 1) := by decide +kernel
theorem dX10_leaves_14 : decode cX10_leaves 14 = .ok (.iconst 0, 1) := by decide +kernel
theorem dX10_leaves_15 : decode cX10_leaves 15 = .ok (.invokevirtual 276, 3) := by decide +kernel
theorem dX10_leaves_18 : decode cX10_leaves 18 = .ok (.aload_n 0, 1) := by decide +kernel
theorem dX10_leaves_19 : decode cX10_leaves 19 = .ok (.iload_n 2, 1) := by decide +kernel
theorem dX10_leaves_20 : decode cX10_leaves 20 = .ok (.iconst 0, 1) := by decide +kernel
theorem dX10_leaves_21 : decode cX10_leaves 21 = .ok (.invokevirtual 276, 3) := by decide +kernel
theorem dX10_leaves_24 : decode cX10_leaves 24 = .ok (.invokestatic 298, 3) := by decide +kernel
theorem dX10_leaves_27 : decode cX10_leaves 27 = .ok (.istore_n 3, 1) := by decide +kernel
theorem dX10_leaves_28 : decode cX10_leaves 28 = .ok (.aload_n 0, 1) := by decide +kernel
theorem dX10_leaves_29 : decode cX10_leaves 29 = .ok (.invokevirtual 360, 3) := by decide +kernel
theorem dX10_leaves_32 : decode cX10_leaves 32 = .ok (.aload_n 0, 1) := by decide +kernel
theorem dX10_leaves_33 : decode cX10_leaves 33 = .ok (.iload_n 1, 1) := by decide +kernel
theorem dX10_leaves_34 : decode cX10_leaves 34 = .ok (.iload_n 3, 1) := by decide +kernel
theorem dX10_leaves_35 : decode cX10_leaves 35 = .ok (.invokevirtual 284, 3) := by decide +kernel
theorem dX10_leaves_38 : decode cX10_leaves 38 = .ok (.aload_n 0, 1) := by decide +kernel
theorem dX10_leaves_39 : decode cX10_leaves 39 = .ok (.iload_n 2, 1) := by decide +kernel
theorem dX10_leaves_40 : decode cX10_leaves 40 = .ok (.iload_n 3, 1) := by decide +kernel
theorem dX10_leaves_41 : decode cX10_leaves 41 = .ok (.invokevirtual 284, 3) := by decide +kernel
theorem dX10_leaves_44 : decode cX10_leaves 44 = .ok (.aload_n 0, 1) := by decide +kernel
theorem dX10_leaves_45 : decode cX10_leaves 45 = .ok (.iload_n 1, 1) := by decide +kernel
theorem dX10_leaves_46 : decode cX10_leaves 46 = .ok (.invokevirtual 413, 3) := by decide +kernel
theorem dX10_leaves_49 : decode cX10_leaves 49 = .ok (.ifCond .eq 7, 3) := by decide +kernel
theorem dX10_leaves_52 : decode cX10_leaves 52 = .ok (.iconst 1, 1) := by decide +kernel
theorem dX10_leaves_53 : decode cX10_leaves 53 = .ok (.goto 4, 3) := by decide +kernel
theorem dX10_leaves_56 : decode cX10_leaves 56 = .ok (.iconst 0, 1) := by decide +kernel
theorem dX10_leaves_57 : decode cX10_leaves 57 = .ok (.aload_n 0, 1) := by decide +kernel
theorem dX10_leaves_58 : decode cX10_leaves 58 = .ok (.iload_n 2, 1) := by decide +kernel
theorem dX10_leaves_59 : decode cX10_leaves 59 = .ok (.invokevirtual 413, 3) := by decide +kernel
theorem dX10_leaves_62 : decode cX10_leaves 62 = .ok (.ifCond .eq 7, 3) := by decide +kernel
theorem dX10_leaves_65 : decode cX10_leaves 65 = .ok (.iconst 2, 1) := by decide +kernel
theorem dX10_leaves_66 : decode cX10_leaves 66 = .ok (.goto 4, 3) := by decide +kernel
theorem dX10_leaves_69 : decode cX10_leaves 69 = .ok (.iconst 0, 1) := by decide +kernel
theorem dX10_leaves_70 : decode cX10_leaves 70 = .ok (.iadd, 1) := by decide +kernel
theorem dX10_leaves_71 : decode cX10_leaves 71 = .ok (.istore 4, 2) := by decide +kernel
theorem dX10_leaves_73 : decode cX10_leaves 73 = .ok (.aload_n 0, 1) := by decide +kernel
theorem dX10_leaves_74 : decode cX10_leaves 74 = .ok (.invokevirtual 367, 3) := by decide +kernel
theorem dX10_leaves_77 : decode cX10_leaves 77 = .ok (.iload 4, 2) := by decide +kernel
theorem dX10_leaves_79 : decode cX10_leaves 79 = .ok (.ireturn, 1) := by decide +kernel
theorem dX10_trulyWorth_0 : decode cX10_trulyWorth 0 = .ok (.aload_n 0, 1) := by decide +kernel
theorem dX10_trulyWorth_1 : decode cX10_trulyWorth 1 = .ok (.iload_n 1, 1) := by decide +kernel
theorem dX10_trulyWorth_2 : decode cX10_trulyWorth 2 = .ok (.iconst 1, 1) := by decide +kernel
theorem dX10_trulyWorth_3 : decode cX10_trulyWorth 3 = .ok (.invokevirtual 400, 3) := by decide +kernel
theorem dX10_trulyWorth_6 : decode cX10_trulyWorth 6 = .ok (.iconst 0, 1) := by decide +kernel
theorem dX10_trulyWorth_7 : decode cX10_trulyWorth 7 = .ok (.istore_n 2, 1) := by decide +kernel
theorem dX10_trulyWorth_8 : decode cX10_trulyWorth 8 = .ok (.iload_n 2, 1) := by decide +kernel
theorem dX10_trulyWorth_9 : decode cX10_trulyWorth 9 = .ok (.iconst 5, 1) := by decide +kernel
theorem dX10_trulyWorth_10 : decode cX10_trulyWorth 10 = .ok (.if_icmp .ge 21, 3) := by decide +kernel
theorem dX10_trulyWorth_13 : decode cX10_trulyWorth 13 = .ok (.aload_n 0, 1) := by decide +kernel
theorem dX10_trulyWorth_14 : decode cX10_trulyWorth 14 = .ok (.getfield 62, 3) := by decide +kernel
theorem dX10_trulyWorth_17 : decode cX10_trulyWorth 17 = .ok (.iload_n 2, 1) := by decide +kernel
theorem dX10_trulyWorth_18 : decode cX10_trulyWorth 18 = .ok (.aload_n 0, 1) := by decide +kernel
theorem dX10_trulyWorth_19 : decode cX10_trulyWorth 19 = .ok (.getfield 53, 3) := by decide +kernel
theorem dX10_trulyWorth_22 : decode cX10_trulyWorth 22 = .ok (.iload_n 2, 1) := by decide +kernel
theorem dX10_trulyWorth_23 : decode cX10_trulyWorth 23 = .ok (.iaload, 1) := by decide +kernel
theorem dX10_trulyWorth_24 : decode cX10_trulyWorth 24 = .ok (.iastore, 1) := by decide +kernel
theorem dX10_trulyWorth_25 : decode cX10_trulyWorth 25 = .ok (.iinc 2 1, 3) := by decide +kernel
theorem dX10_trulyWorth_28 : decode cX10_trulyWorth 28 = .ok (.goto (-20), 3) := by decide +kernel
theorem dX10_trulyWorth_31 : decode cX10_trulyWorth 31 = .ok (.aload_n 0, 1) := by decide +kernel
theorem dX10_trulyWorth_32 : decode cX10_trulyWorth 32 = .ok (.iload_n 1, 1) := by decide +kernel
theorem dX10_trulyWorth_33 : decode cX10_trulyWorth 33 = .ok (.invokevirtual 466, 3) := by decide +kernel
theorem dX10_trulyWorth_36 : decode cX10_trulyWorth 36 = .ok (.aload_n 0, 1) := by decide +kernel
theorem dX10_trulyWorth_37 : decode cX10_trulyWorth 37 = .ok (.iload_n 1, 1) := by decide +kernel
theorem dX10_trulyWorth_38 : decode cX10_trulyWorth 38 = .ok (.aload_n 0, 1) := by decide +kernel
theorem dX10_trulyWorth_39 : decode cX10_trulyWorth 39 = .ok (.getfield 62, 3) := by decide +kernel
theorem dX10_trulyWorth_42 : decode cX10_trulyWorth 42 = .ok (.iconst 1, 1) := by decide +kernel
theorem dX10_trulyWorth_43 : decode cX10_trulyWorth 43 = .ok (.iaload, 1) := by decide +kernel
theorem dX10_trulyWorth_44 : decode cX10_trulyWorth 44 = .ok (.aload_n 0, 1) := by decide +kernel
theorem dX10_trulyWorth_45 : decode cX10_trulyWorth 45 = .ok (.getfield 62, 3) := by decide +kernel
theorem dX10_trulyWorth_48 : decode cX10_trulyWorth 48 = .ok (.iconst 2, 1) := by decide +kernel
theorem dX10_trulyWorth_49 : decode cX10_trulyWorth 49 = .ok (.iaload, 1) := by decide +kernel
theorem dX10_trulyWorth_50 : decode cX10_trulyWorth 50 = .ok (.aload_n 0, 1) := by decide +kernel
theorem dX10_trulyWorth_51 : decode cX10_trulyWorth 51 = .ok (.getfield 62, 3) := by decide +kernel
theorem dX10_trulyWorth_54 : decode cX10_trulyWorth 54 = .ok (.iconst 3, 1) := by decide +kernel
theorem dX10_trulyWorth_55 : decode cX10_trulyWorth 55 = .ok (.iaload, 1) := by decide +kernel
theorem dX10_trulyWorth_56 : decode cX10_trulyWorth 56 = .ok (.aload_n 0, 1) := by decide +kernel
theorem dX10_trulyWorth_57 : decode cX10_trulyWorth 57 = .ok (.getfield 62, 3) := by decide +kernel
theorem dX10_trulyWorth_60 : decode cX10_trulyWorth 60 = .ok (.iconst 4, 1) := by decide +kernel
theorem dX10_trulyWorth_61 : decode cX10_trulyWorth 61 = .ok (.iaload, 1) := by decide +kernel
theorem dX10_trulyWorth_62 : decode cX10_trulyWorth 62 = .ok (.invokevirtual 392, 3) := by decide +kernel
theorem dX10_trulyWorth_65 : decode cX10_trulyWorth 65 = .ok (.ireturn, 1) := by decide +kernel
theorem dX10_seenWorth_0 : decode cX10_seenWorth 0 = .ok (.aload_n 0, 1) := by decide +kernel
theorem dX10_seenWorth_1 : decode cX10_seenWorth 1 = .ok (.iload_n 1, 1) := by decide +kernel
theorem dX10_seenWorth_2 : decode cX10_seenWorth 2 = .ok (.invokevirtual 389, 3) := by decide +kernel
theorem dX10_seenWorth_5 : decode cX10_seenWorth 5 = .ok (.aload_n 0, 1) := by decide +kernel
theorem dX10_seenWorth_6 : decode cX10_seenWorth 6 = .ok (.iload_n 1, 1) := by decide +kernel
theorem dX10_seenWorth_7 : decode cX10_seenWorth 7 = .ok (.invokevirtual 469, 3) := by decide +kernel
theorem dX10_seenWorth_10 : decode cX10_seenWorth 10 = .ok (.ireturn, 1) := by decide +kernel
theorem dX10_know_0 : decode cX10_know 0 = .ok (.aload_n 0, 1) := by decide +kernel
theorem dX10_know_1 : decode cX10_know 1 = .ok (.iload_n 1, 1) := by decide +kernel
theorem dX10_know_2 : decode cX10_know 2 = .ok (.invokevirtual 106, 3) := by decide +kernel
theorem dX10_know_5 : decode cX10_know 5 = .ok (.ifCond .ne 7, 3) := by decide +kernel
theorem dX10_know_8 : decode cX10_know 8 = .ok (.ldc_w 388, 3) := by decide +kernel
theorem dX10_know_11 : decode cX10_know 11 = .ok (.ireturn, 1) := by decide +kernel
theorem dX10_know_12 : decode cX10_know 12 = .ok (.aload_n 0, 1) := by decide +kernel
theorem dX10_know_13 : decode cX10_know 13 = .ok (.iload_n 1, 1) := by decide +kernel
theorem dX10_know_14 : decode cX10_know 14 = .ok (.invokevirtual 466, 3) := by decide +kernel
theorem dX10_know_17 : decode cX10_know 17 = .ok (.aload_n 0, 1) := by decide +kernel
theorem dX10_know_18 : decode cX10_know 18 = .ok (.iload_n 1, 1) := by decide +kernel
theorem dX10_know_19 : decode cX10_know 19 = .ok (.invokevirtual 469, 3) := by decide +kernel
theorem dX10_know_22 : decode cX10_know 22 = .ok (.istore_n 2, 1) := by decide +kernel
theorem dX10_know_23 : decode cX10_know 23 = .ok (.iload_n 2, 1) := by decide +kernel
theorem dX10_know_24 : decode cX10_know 24 = .ok (.aload_n 0, 1) := by decide +kernel
theorem dX10_know_25 : decode cX10_know 25 = .ok (.iload_n 1, 1) := by decide +kernel
theorem dX10_know_26 : decode cX10_know 26 = .ok (.invokevirtual 472, 3) := by decide +kernel
theorem dX10_know_29 : decode cX10_know 29 = .ok (.isub, 1) := by decide +kernel
theorem dX10_know_30 : decode cX10_know 30 = .ok (.ireturn, 1) := by decide +kernel
theorem dX10_knows_0 : decode cX10_knows 0 = .ok (.aload_n 0, 1) := by decide +kernel
theorem dX10_knows_1 : decode cX10_knows 1 = .ok (.iload_n 1, 1) := by decide +kernel
theorem dX10_knows_2 : decode cX10_knows 2 = .ok (.iload_n 2, 1) := by decide +kernel
theorem dX10_knows_3 : decode cX10_knows 3 = .ok (.invokevirtual 289, 3) := by decide +kernel
theorem dX10_knows_6 : decode cX10_knows 6 = .ok (.ifCond .ne 7, 3) := by decide +kernel
theorem dX10_knows_9 : decode cX10_knows 9 = .ok (.ldc_w 388, 3) := by decide +kernel
theorem dX10_knows_12 : decode cX10_knows 12 = .ok (.ireturn, 1) := by decide +kernel
theorem dX10_knows_13 : decode cX10_knows 13 = .ok (.aload_n 0, 1) := by decide +kernel
theorem dX10_knows_14 : decode cX10_knows 14 = .ok (.iload_n 1, 1) := by decide +kernel
theorem dX10_knows_15 : decode cX10_knows 15 = .ok (.invokevirtual 389, 3) := by decide +kernel
theorem dX10_knows_18 : decode cX10_knows 18 = .ok (.aload_n 0, 1) := by decide +kernel
theorem dX10_knows_19 : decode cX10_knows 19 = .ok (.getfield 47, 3) := by decide +kernel
theorem dX10_knows_22 : decode cX10_knows 22 = .ok (.iload_n 2, 1) := by decide +kernel
theorem dX10_knows_23 : decode cX10_knows 23 = .ok (.aload_n 0, 1) := by decide +kernel
theorem dX10_knows_24 : decode cX10_knows 24 = .ok (.iload_n 2, 1) := by decide +kernel
theorem dX10_knows_25 : decode cX10_knows 25 = .ok (.invokevirtual 279, 3) := by decide +kernel
theorem dX10_knows_28 : decode cX10_knows 28 = .ok (.iastore, 1) := by decide +kernel
theorem dX10_knows_29 : decode cX10_knows 29 = .ok (.aload_n 0, 1) := by decide +kernel
theorem dX10_knows_30 : decode cX10_knows 30 = .ok (.iload_n 1, 1) := by decide +kernel
theorem dX10_knows_31 : decode cX10_knows 31 = .ok (.invokevirtual 469, 3) := by decide +kernel
theorem dX10_knows_34 : decode cX10_knows 34 = .ok (.istore_n 3, 1) := by decide +kernel
theorem dX10_knows_35 : decode cX10_knows 35 = .ok (.iload_n 3, 1) := by decide +kernel
theorem dX10_knows_36 : decode cX10_knows 36 = .ok (.aload_n 0, 1) := by decide +kernel
theorem dX10_knows_37 : decode cX10_knows 37 = .ok (.iload_n 1, 1) := by decide +kernel
theorem dX10_knows_38 : decode cX10_knows 38 = .ok (.invokevirtual 472, 3) := by decide +kernel
theorem dX10_knows_41 : decode cX10_knows 41 = .ok (.isub, 1) := by decide +kernel
theorem dX10_knows_42 : decode cX10_knows 42 = .ok (.ireturn, 1) := by decide +kernel
theorem dX10_canLend_0 : decode cX10_canLend 0 = .ok (.iload_n 3, 1) := by decide +kernel
theorem dX10_canLend_1 : decode cX10_canLend 1 = .ok (.aload_n 0, 1) := by decide +kernel
theorem dX10_canLend_2 : decode cX10_canLend 2 = .ok (.iload_n 1, 1) := by decide +kernel
theorem dX10_canLend_3 : decode cX10_canLend 3 = .ok (.iconst 0, 1) := by decide +kernel
theorem dX10_canLend_4 : decode cX10_canLend 4 = .ok (.invokevirtual 276, 3) := by decide +kernel
theorem dX10_canLend_7 : decode cX10_canLend 7 = .ok (.if_icmp .gt 24, 3) := by decide +kernel
theorem dX10_canLend_10 : decode cX10_canLend 10 = .ok (.aload_n 0, 1) := by decide +kernel
theorem dX10_canLend_11 : decode cX10_canLend 11 = .ok (.iload_n 2, 1) := by decide +kernel
theorem dX10_canLend_12 : decode cX10_canLend 12 = .ok (.iconst 0, 1) := by decide +kernel
theorem dX10_canLend_13 : decode cX10_canLend 13 = .ok (.invokevirtual 276, 3) := by decide +kernel
theorem dX10_canLend_16 : decode cX10_canLend 16 = .ok (.iload_n 3, 1) := by decide +kernel
theorem dX10_canLend_17 : decode cX10_canLend 17 = .ok (.iadd, 1) := by decide +kernel
theorem dX10_canLend_18 : decode cX10_canLend 18 = .ok (.aload_n 0, 1) := by decide +kernel
theorem dX10_canLend_19 : decode cX10_canLend 19 = .ok (.getfield 13, 3) := by decide +kernel
theorem dX10_canLend_22 : decode cX10_canLend 22 = .ok (.iconst 1, 1) := by decide +kernel
theorem dX10_canLend_23 : decode cX10_canLend 23 = .ok (.iaload, 1) := by decide +kernel
theorem dX10_canLend_24 : decode cX10_canLend 24 = .ok (.if_icmp .gt 7, 3) := by decide +kernel
theorem dX10_canLend_27 : decode cX10_canLend 27 = .ok (.iconst 1, 1) := by decide +kernel
theorem dX10_canLend_28 : decode cX10_canLend 28 = .ok (.goto 4, 3) := by decide +kernel
theorem dX10_canLend_31 : decode cX10_canLend 31 = .ok (.iconst 0, 1) := by decide +kernel
theorem dX10_canLend_32 : decode cX10_canLend 32 = .ok (.ireturn, 1) := by decide +kernel
theorem dX10_lend_0 : decode cX10_lend 0 = .ok (.aload_n 0, 1) := by decide +kernel
theorem dX10_lend_1 : decode cX10_lend 1 = .ok (.iload_n 1, 1) := by decide +kernel
theorem dX10_lend_2 : decode cX10_lend 2 = .ok (.iload_n 2, 1) := by decide +kernel
theorem dX10_lend_3 : decode cX10_lend 3 = .ok (.invokevirtual 289, 3) := by decide +kernel
theorem dX10_lend_6 : decode cX10_lend 6 = .ok (.ifCond .eq 15, 3) := by decide +kernel
theorem dX10_lend_9 : decode cX10_lend 9 = .ok (.iload_n 3, 1) := by decide +kernel
theorem dX10_lend_10 : decode cX10_lend 10 = .ok (.i2l, 1) := by decide +kernel
theorem dX10_lend_11 : decode cX10_lend 11 = .ok (.lconst 1, 1) := by decide +kernel
theorem dX10_lend_12 : decode cX10_lend 12 = .ok (.ldc2_w 287, 3) := by decide +kernel
theorem dX10_lend_15 : decode cX10_lend 15 = .ok (.invokestatic 98, 3) := by decide +kernel
theorem dX10_lend_18 : decode cX10_lend 18 = .ok (.ifCond .ne 6, 3) := by decide +kernel
theorem dX10_lend_21 : decode cX10_lend 21 = .ok (.bipush (-2), 2) := by decide +kernel
theorem dX10_lend_23 : decode cX10_lend 23 = .ok (.ireturn, 1) := by decide +kernel
theorem dX10_lend_24 : decode cX10_lend 24 = .ok (.aload_n 0, 1) := by decide +kernel
theorem dX10_lend_25 : decode cX10_lend 25 = .ok (.getfield 13, 3) := by decide +kernel
theorem dX10_lend_28 : decode cX10_lend 28 = .ok (.bipush 9, 2) := by decide +kernel
theorem dX10_lend_30 : decode cX10_lend 30 = .ok (.iaload, 1) := by decide +kernel
theorem dX10_lend_31 : decode cX10_lend 31 = .ok (.bipush 6, 2) := by decide +kernel
theorem dX10_lend_33 : decode cX10_lend 33 = .ok (.if_icmp .ne 6, 3) := by decide +kernel
theorem dX10_lend_36 : decode cX10_lend 36 = .ok (.bipush (-3), 2) := by decide +kernel
theorem dX10_lend_38 : decode cX10_lend 38 = .ok (.ireturn, 1) := by decide +kernel
theorem dX10_lend_39 : decode cX10_lend 39 = .ok (.aload_n 0, 1) := by decide +kernel
theorem dX10_lend_40 : decode cX10_lend 40 = .ok (.iload_n 1, 1) := by decide +kernel
theorem dX10_lend_41 : decode cX10_lend 41 = .ok (.iload_n 2, 1) := by decide +kernel
theorem dX10_lend_42 : decode cX10_lend 42 = .ok (.iload_n 3, 1) := by decide +kernel
theorem dX10_lend_43 : decode cX10_lend 43 = .ok (.invokevirtual 475, 3) := by decide +kernel
theorem dX10_lend_46 : decode cX10_lend 46 = .ok (.ifCond .ne 6, 3) := by decide +kernel
theorem dX10_lend_49 : decode cX10_lend 49 = .ok (.bipush (-5), 2) := by decide +kernel
theorem dX10_lend_51 : decode cX10_lend 51 = .ok (.ireturn, 1) := by decide +kernel
theorem dX10_lend_52 : decode cX10_lend 52 = .ok (.aload_n 0, 1) := by decide +kernel
theorem dX10_lend_53 : decode cX10_lend 53 = .ok (.iload_n 1, 1) := by decide +kernel
theorem dX10_lend_54 : decode cX10_lend 54 = .ok (.aload_n 0, 1) := by decide +kernel
theorem dX10_lend_55 : decode cX10_lend 55 = .ok (.iload_n 1, 1) := by decide +kernel
theorem dX10_lend_56 : decode cX10_lend 56 = .ok (.iconst 0, 1) := by decide +kernel
theorem dX10_lend_57 : decode cX10_lend 57 = .ok (.invokevirtual 276, 3) := by decide +kernel
theorem dX10_lend_60 : decode cX10_lend 60 = .ok (.iload_n 3, 1) := by decide +kernel
theorem dX10_lend_61 : decode cX10_lend 61 = .ok (.isub, 1) := by decide +kernel
theorem dX10_lend_62 : decode cX10_lend 62 = .ok (.invokevirtual 284, 3) := by decide +kernel
theorem dX10_lend_65 : decode cX10_lend 65 = .ok (.aload_n 0, 1) := by decide +kernel
theorem dX10_lend_66 : decode cX10_lend 66 = .ok (.iload_n 2, 1) := by decide +kernel
theorem dX10_lend_67 : decode cX10_lend 67 = .ok (.aload_n 0, 1) := by decide +kernel
