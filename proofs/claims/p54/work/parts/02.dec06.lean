theorem dX9_run_48 : decode cX9_run 48 = .ok (.iload_n 2, 1) := by decide +kernel
theorem dX9_run_49 : decode cX9_run 49 = .ok (.ireturn, 1) := by decide +kernel
theorem dX9_value_0 : decode cX9_value 0 = .ok (.aload_n 0, 1) := by decide +kernel
theorem dX9_value_1 : decode cX9_value 1 = .ok (.aload_n 0, 1) := by decide +kernel
theorem dX9_value_2 : decode cX9_value 2 = .ok (.getfield 19, 3) := by decide +kernel
theorem dX9_value_5 : decode cX9_value 5 = .ok (.iload_n 1, 1) := by decide +kernel
theorem dX9_value_6 : decode cX9_value 6 = .ok (.i2l, 1) := by decide +kernel
theorem dX9_value_7 : decode cX9_value 7 = .ok (.iload_n 2, 1) := by decide +kernel
theorem dX9_value_8 : decode cX9_value 8 = .ok (.i2l, 1) := by decide +kernel
theorem dX9_value_9 : decode cX9_value 9 = .ok (.iload_n 3, 1) := by decide +kernel
theorem dX9_value_10 : decode cX9_value 10 = .ok (.i2l, 1) := by decide +kernel
theorem dX9_value_11 : decode cX9_value 11 = .ok (.iload 4, 2) := by decide +kernel
theorem dX9_value_13 : decode cX9_value 13 = .ok (.i2l, 1) := by decide +kernel
theorem dX9_value_14 : decode cX9_value 14 = .ok (.iload 5, 2) := by decide +kernel
theorem dX9_value_16 : decode cX9_value 16 = .ok (.i2l, 1) := by decide +kernel
theorem dX9_value_17 : decode cX9_value 17 = .ok (.invokevirtual 187, 3) := by decide +kernel
theorem dX9_value_20 : decode cX9_value 20 = .ok (.ifCond .eq 6, 3) := by decide +kernel
theorem dX9_value_23 : decode cX9_value 23 = .ok (.ldc 223, 2) := by decide +kernel
theorem dX9_value_25 : decode cX9_value 25 = .ok (.ireturn, 1) := by decide +kernel
theorem dX9_value_26 : decode cX9_value 26 = .ok (.aload_n 0, 1) := by decide +kernel
theorem dX9_value_27 : decode cX9_value 27 = .ok (.getfield 50, 3) := by decide +kernel
theorem dX9_value_30 : decode cX9_value 30 = .ok (.aload_n 0, 1) := by decide +kernel
theorem dX9_value_31 : decode cX9_value 31 = .ok (.getfield 19, 3) := by decide +kernel
theorem dX9_value_34 : decode cX9_value 34 = .ok (.iload_n 1, 1) := by decide +kernel
theorem dX9_value_35 : decode cX9_value 35 = .ok (.iconst 0, 1) := by decide +kernel
theorem dX9_value_36 : decode cX9_value 36 = .ok (.iconst 1, 1) := by decide +kernel
theorem dX9_value_37 : decode cX9_value 37 = .ok (.invokevirtual 224, 3) := by decide +kernel
theorem dX9_value_40 : decode cX9_value 40 = .ok (.aload_n 0, 1) := by decide +kernel
theorem dX9_value_41 : decode cX9_value 41 = .ok (.getfield 50, 3) := by decide +kernel
theorem dX9_value_44 : decode cX9_value 44 = .ok (.aload_n 0, 1) := by decide +kernel
theorem dX9_value_45 : decode cX9_value 45 = .ok (.getfield 19, 3) := by decide +kernel
theorem dX9_value_48 : decode cX9_value 48 = .ok (.iload_n 2, 1) := by decide +kernel
theorem dX9_value_49 : decode cX9_value 49 = .ok (.iload_n 3, 1) := by decide +kernel
theorem dX9_value_50 : decode cX9_value 50 = .ok (.iload 4, 2) := by decide +kernel
theorem dX9_value_52 : decode cX9_value 52 = .ok (.iload 5, 2) := by decide +kernel
theorem dX9_value_54 : decode cX9_value 54 = .ok (.invokevirtual 228, 3) := by decide +kernel
theorem dX9_value_57 : decode cX9_value 57 = .ok (.ireturn, 1) := by decide +kernel
theorem dX9_best_0 : decode cX9_best 0 = .ok (.aload_n 0, 1) := by decide +kernel
theorem dX9_best_1 : decode cX9_best 1 = .ok (.iload_n 1, 1) := by decide +kernel
theorem dX9_best_2 : decode cX9_best 2 = .ok (.i2l, 1) := by decide +kernel
theorem dX9_best_3 : decode cX9_best 3 = .ok (.invokevirtual 100, 3) := by decide +kernel
theorem dX9_best_6 : decode cX9_best 6 = .ok (.ifCond .eq 12, 3) := by decide +kernel
theorem dX9_best_9 : decode cX9_best 9 = .ok (.iload_n 2, 1) := by decide +kernel
theorem dX9_best_10 : decode cX9_best 10 = .ok (.ifCond .lt 8, 3) := by decide +kernel
theorem dX9_best_13 : decode cX9_best 13 = .ok (.iload_n 2, 1) := by decide +kernel
theorem dX9_best_14 : decode cX9_best 14 = .ok (.iconst 4, 1) := by decide +kernel
theorem dX9_best_15 : decode cX9_best 15 = .ok (.if_icmp .le 15, 3) := by decide +kernel
theorem dX9_best_18 : decode cX9_best 18 = .ok (.iload_n 2, 1) := by decide +kernel
theorem dX9_best_19 : decode cX9_best 19 = .ok (.ifCond .ne 8, 3) := by decide +kernel
theorem dX9_best_22 : decode cX9_best 22 = .ok (.ldc 223, 2) := by decide +kernel
theorem dX9_best_24 : decode cX9_best 24 = .ok (.goto 5, 3) := by decide +kernel
theorem dX9_best_27 : decode cX9_best 27 = .ok (.bipush (-2), 2) := by decide +kernel
theorem dX9_best_29 : decode cX9_best 29 = .ok (.ireturn, 1) := by decide +kernel
theorem dX9_best_30 : decode cX9_best 30 = .ok (.aload_n 0, 1) := by decide +kernel
theorem dX9_best_31 : decode cX9_best 31 = .ok (.getfield 50, 3) := by decide +kernel
theorem dX9_best_34 : decode cX9_best 34 = .ok (.aload_n 0, 1) := by decide +kernel
theorem dX9_best_35 : decode cX9_best 35 = .ok (.getfield 19, 3) := by decide +kernel
theorem dX9_best_38 : decode cX9_best 38 = .ok (.iload_n 1, 1) := by decide +kernel
theorem dX9_best_39 : decode cX9_best 39 = .ok (.iconst 0, 1) := by decide +kernel
theorem dX9_best_40 : decode cX9_best 40 = .ok (.iconst 1, 1) := by decide +kernel
theorem dX9_best_41 : decode cX9_best 41 = .ok (.invokevirtual 224, 3) := by decide +kernel
theorem dX9_best_44 : decode cX9_best 44 = .ok (.aload_n 0, 1) := by decide +kernel
theorem dX9_best_45 : decode cX9_best 45 = .ok (.getfield 50, 3) := by decide +kernel
theorem dX9_best_48 : decode cX9_best 48 = .ok (.aload_n 0, 1) := by decide +kernel
theorem dX9_best_49 : decode cX9_best 49 = .ok (.getfield 19, 3) := by decide +kernel
theorem dX9_best_52 : decode cX9_best 52 = .ok (.iconst 1, 1) := by decide +kernel
theorem dX9_best_53 : decode cX9_best 53 = .ok (.invokevirtual 232, 3) := by decide +kernel
theorem dX9_best_56 : decode cX9_best 56 = .ok (.aload_n 0, 1) := by decide +kernel
theorem dX9_best_57 : decode cX9_best 57 = .ok (.getfield 50, 3) := by decide +kernel
theorem dX9_best_60 : decode cX9_best 60 = .ok (.aload_n 0, 1) := by decide +kernel
theorem dX9_best_61 : decode cX9_best 61 = .ok (.getfield 19, 3) := by decide +kernel
theorem dX9_best_64 : decode cX9_best 64 = .ok (.iconst 0, 1) := by decide +kernel
theorem dX9_best_65 : decode cX9_best 65 = .ok (.invokevirtual 232, 3) := by decide +kernel
theorem dX9_best_68 : decode cX9_best 68 = .ok (.iload_n 2, 1) := by decide +kernel
theorem dX9_best_69 : decode cX9_best 69 = .ok (.tableswitch 63 0 3 #[31, 39, 47, 55], 31) := by decide +kernel
theorem dX9_best_100 : decode cX9_best 100 = .ok (.aload_n 0, 1) := by decide +kernel
theorem dX9_best_101 : decode cX9_best 101 = .ok (.getfield 50, 3) := by decide +kernel
theorem dX9_best_104 : decode cX9_best 104 = .ok (.getfield 236, 3) := by decide +kernel
theorem dX9_best_107 : decode cX9_best 107 = .ok (.ireturn, 1) := by decide +kernel
theorem dX9_best_108 : decode cX9_best 108 = .ok (.aload_n 0, 1) := by decide +kernel
theorem dX9_best_109 : decode cX9_best 109 = .ok (.getfield 50, 3) := by decide +kernel
theorem dX9_best_112 : decode cX9_best 112 = .ok (.getfield 239, 3) := by decide +kernel
theorem dX9_best_115 : decode cX9_best 115 = .ok (.ireturn, 1) := by decide +kernel
theorem dX9_best_116 : decode cX9_best 116 = .ok (.aload_n 0, 1) := by decide +kernel
theorem dX9_best_117 : decode cX9_best 117 = .ok (.getfield 50, 3) := by decide +kernel
theorem dX9_best_120 : decode cX9_best 120 = .ok (.getfield 242, 3) := by decide +kernel
theorem dX9_best_123 : decode cX9_best 123 = .ok (.ireturn, 1) := by decide +kernel
theorem dX9_best_124 : decode cX9_best 124 = .ok (.aload_n 0, 1) := by decide +kernel
theorem dX9_best_125 : decode cX9_best 125 = .ok (.getfield 50, 3) := by decide +kernel
theorem dX9_best_128 : decode cX9_best 128 = .ok (.getfield 245, 3) := by decide +kernel
theorem dX9_best_131 : decode cX9_best 131 = .ok (.ireturn, 1) := by decide +kernel
theorem dX9_best_132 : decode cX9_best 132 = .ok (.aload_n 0, 1) := by decide +kernel
theorem dX9_best_133 : decode cX9_best 133 = .ok (.getfield 50, 3) := by decide +kernel
theorem dX9_best_136 : decode cX9_best 136 = .ok (.getfield 248, 3) := by decide +kernel
theorem dX9_best_139 : decode cX9_best 139 = .ok (.ireturn, 1) := by decide +kernel
theorem dX9_gift_0 : decode cX9_gift 0 = .ok (.aload_n 0, 1) := by decide +kernel
theorem dX9_gift_1 : decode cX9_gift 1 = .ok (.iload_n 1, 1) := by decide +kernel
theorem dX9_gift_2 : decode cX9_gift 2 = .ok (.iload_n 2, 1) := by decide +kernel
theorem dX9_gift_3 : decode cX9_gift 3 = .ok (.invokevirtual 141, 3) := by decide +kernel
theorem dX9_gift_6 : decode cX9_gift 6 = .ok (.ifCond .eq 12, 3) := by decide +kernel
theorem dX9_gift_9 : decode cX9_gift 9 = .ok (.aload_n 0, 1) := by decide +kernel
theorem dX9_gift_10 : decode cX9_gift 10 = .ok (.iload_n 1, 1) := by decide +kernel
theorem dX9_gift_11 : decode cX9_gift 11 = .ok (.iload_n 2, 1) := by decide +kernel
theorem dX9_gift_12 : decode cX9_gift 12 = .ok (.invokevirtual 251, 3) := by decide +kernel
theorem dX9_gift_15 : decode cX9_gift 15 = .ok (.goto 5, 3) := by decide +kernel
theorem dX9_gift_18 : decode cX9_gift 18 = .ok (.bipush (-2), 2) := by decide +kernel
theorem dX9_gift_20 : decode cX9_gift 20 = .ok (.ireturn, 1) := by decide +kernel
theorem dX9_leastSaving_0 : decode cX9_leastSaving 0 = .ok (.iconst 0, 1) := by decide +kernel
theorem dX9_leastSaving_1 : decode cX9_leastSaving 1 = .ok (.istore_n 3, 1) := by decide +kernel
theorem dX9_leastSaving_2 : decode cX9_leastSaving 2 = .ok (.iload_n 3, 1) := by decide +kernel
theorem dX9_leastSaving_3 : decode cX9_leastSaving 3 = .ok (.aload_n 0, 1) := by decide +kernel
theorem dX9_leastSaving_4 : decode cX9_leastSaving 4 = .ok (.getfield 19, 3) := by decide +kernel
theorem dX9_leastSaving_7 : decode cX9_leastSaving 7 = .ok (.getfield 110, 3) := by decide +kernel
theorem dX9_leastSaving_10 : decode cX9_leastSaving 10 = .ok (.iload_n 1, 1) := by decide +kernel
theorem dX9_leastSaving_11 : decode cX9_leastSaving 11 = .ok (.aaload, 1) := by decide +kernel
theorem dX9_leastSaving_12 : decode cX9_leastSaving 12 = .ok (.getfield 114, 3) := by decide +kernel
theorem dX9_leastSaving_15 : decode cX9_leastSaving 15 = .ok (.if_icmp .gt 29, 3) := by decide +kernel
theorem dX9_leastSaving_18 : decode cX9_leastSaving 18 = .ok (.aload_n 0, 1) := by decide +kernel
theorem dX9_leastSaving_19 : decode cX9_leastSaving 19 = .ok (.iload_n 1, 1) := by decide +kernel
theorem dX9_leastSaving_20 : decode cX9_leastSaving 20 = .ok (.iload_n 2, 1) := by decide +kernel
theorem dX9_leastSaving_21 : decode cX9_leastSaving 21 = .ok (.iload_n 3, 1) := by decide +kernel
theorem dX9_leastSaving_22 : decode cX9_leastSaving 22 = .ok (.invokevirtual 254, 3) := by decide +kernel
theorem dX9_leastSaving_25 : decode cX9_leastSaving 25 = .ok (.aload_n 0, 1) := by decide +kernel
theorem dX9_leastSaving_26 : decode cX9_leastSaving 26 = .ok (.getfield 43, 3) := by decide +kernel
theorem dX9_leastSaving_29 : decode cX9_leastSaving 29 = .ok (.iload_n 1, 1) := by decide +kernel
theorem dX9_leastSaving_30 : decode cX9_leastSaving 30 = .ok (.invokevirtual 171, 3) := by decide +kernel
theorem dX9_leastSaving_33 : decode cX9_leastSaving 33 = .ok (.ifCond .ne 5, 3) := by decide +kernel
theorem dX9_leastSaving_36 : decode cX9_leastSaving 36 = .ok (.iload_n 3, 1) := by decide +kernel
theorem dX9_leastSaving_37 : decode cX9_leastSaving 37 = .ok (.ireturn, 1) := by decide +kernel
theorem dX9_leastSaving_38 : decode cX9_leastSaving 38 = .ok (.iinc 3 1, 3) := by decide +kernel
theorem dX9_leastSaving_41 : decode cX9_leastSaving 41 = .ok (.goto (-39), 3) := by decide +kernel
theorem dX9_leastSaving_44 : decode cX9_leastSaving 44 = .ok (.iconst (-1), 1) := by decide +kernel
theorem dX9_leastSaving_45 : decode cX9_leastSaving 45 = .ok (.ireturn, 1) := by decide +kernel
theorem dX9_lookAfterHanding_0 : decode cX9_lookAfterHanding 0 = .ok (.aload_n 0, 1) := by decide +kernel
theorem dX9_lookAfterHanding_1 : decode cX9_lookAfterHanding 1 = .ok (.getfield 43, 3) := by decide +kernel
theorem dX9_lookAfterHanding_4 : decode cX9_lookAfterHanding 4 = .ok (.aload_n 0, 1) := by decide +kernel
theorem dX9_lookAfterHanding_5 : decode cX9_lookAfterHanding 5 = .ok (.getfield 19, 3) := by decide +kernel
theorem dX9_lookAfterHanding_8 : decode cX9_lookAfterHanding 8 = .ok (.invokevirtual 151, 3) := by decide +kernel
theorem dX9_lookAfterHanding_11 : decode cX9_lookAfterHanding 11 = .ok (.aload_n 0, 1) := by decide +kernel
theorem dX9_lookAfterHanding_12 : decode cX9_lookAfterHanding 12 = .ok (.getfield 43, 3) := by decide +kernel
theorem dX9_lookAfterHanding_15 : decode cX9_lookAfterHanding 15 = .ok (.iload_n 1, 1) := by decide +kernel
theorem dX9_lookAfterHanding_16 : decode cX9_lookAfterHanding 16 = .ok (.iload_n 2, 1) := by decide +kernel
theorem dX9_lookAfterHanding_17 : decode cX9_lookAfterHanding 17 = .ok (.iload_n 3, 1) := by decide +kernel
theorem dX9_lookAfterHanding_18 : decode cX9_lookAfterHanding 18 = .ok (.invokevirtual 258, 3) := by decide +kernel
theorem dX9_lookAfterHanding_21 : decode cX9_lookAfterHanding 21 = .ok (.aload_n 0, 1) := by decide +kernel
theorem dX9_lookAfterHanding_22 : decode cX9_lookAfterHanding 22 = .ok (.getfield 43, 3) := by decide +kernel
theorem dX9_lookAfterHanding_25 : decode cX9_lookAfterHanding 25 = .ok (.aload_n 0, 1) := by decide +kernel
theorem dX9_lookAfterHanding_26 : decode cX9_lookAfterHanding 26 = .ok (.getfield 19, 3) := by decide +kernel
theorem dX9_lookAfterHanding_29 : decode cX9_lookAfterHanding 29 = .ok (.getfield 154, 3) := by decide +kernel
theorem dX9_lookAfterHanding_32 : decode cX9_lookAfterHanding 32 = .ok (.invokevirtual 158, 3) := by decide +kernel
theorem dX9_lookAfterHanding_35 : decode cX9_lookAfterHanding 35 = .ok (.return_, 1) := by decide +kernel
theorem dX9_gifts_0 : decode cX9_gifts 0 = .ok (.aload_n 0, 1) := by decide +kernel
theorem dX9_gifts_1 : decode cX9_gifts 1 = .ok (.iload_n 1, 1) := by decide +kernel
theorem dX9_gifts_2 : decode cX9_gifts 2 = .ok (.i2l, 1) := by decide +kernel
theorem dX9_gifts_3 : decode cX9_gifts 3 = .ok (.invokevirtual 100, 3) := by decide +kernel
theorem dX9_gifts_6 : decode cX9_gifts 6 = .ok (.ifCond .ne 6, 3) := by decide +kernel
theorem dX9_gifts_9 : decode cX9_gifts 9 = .ok (.bipush (-2), 2) := by decide +kernel
theorem dX9_gifts_11 : decode cX9_gifts 11 = .ok (.ireturn, 1) := by decide +kernel
theorem dX9_gifts_12 : decode cX9_gifts 12 = .ok (.iconst (-1), 1) := by decide +kernel
theorem dX9_gifts_13 : decode cX9_gifts 13 = .ok (.istore_n 2, 1) := by decide +kernel
theorem dX9_gifts_14 : decode cX9_gifts 14 = .ok (.iconst (-1), 1) := by decide +kernel
theorem dX9_gifts_15 : decode cX9_gifts 15 = .ok (.istore_n 3, 1) := by decide +kernel
theorem dX9_gifts_16 : decode cX9_gifts 16 = .ok (.iconst 0, 1) := by decide +kernel
theorem dX9_gifts_17 : decode cX9_gifts 17 = .ok (.istore 4, 2) := by decide +kernel
theorem dX9_gifts_19 : decode cX9_gifts 19 = .ok (.iload 4, 2) := by decide +kernel
theorem dX9_gifts_21 : decode cX9_gifts 21 = .ok (.aload_n 0, 1) := by decide +kernel
theorem dX9_gifts_22 : decode cX9_gifts 22 = .ok (.getfield 19, 3) := by decide +kernel
theorem dX9_gifts_25 : decode cX9_gifts 25 = .ok (.getfield 97, 3) := by decide +kernel
theorem dX9_gifts_28 : decode cX9_gifts 28 = .ok (.if_icmp .ge 51, 3) := by decide +kernel
theorem dX9_gifts_31 : decode cX9_gifts 31 = .ok (.iload 4, 2) := by decide +kernel
theorem dX9_gifts_33 : decode cX9_gifts 33 = .ok (.iload_n 1, 1) := by decide +kernel
theorem dX9_gifts_34 : decode cX9_gifts 34 = .ok (.if_icmp .ne 7, 3) := by decide +kernel
theorem dX9_gifts_37 : decode cX9_gifts 37 = .ok (.iconst (-1), 1) := by decide +kernel
theorem dX9_gifts_38 : decode cX9_gifts 38 = .ok (.goto 10, 3) := by decide +kernel
theorem dX9_gifts_41 : decode cX9_gifts 41 = .ok (.aload_n 0, 1) := by decide +kernel
theorem dX9_gifts_42 : decode cX9_gifts 42 = .ok (.iload_n 1, 1) := by decide +kernel
theorem dX9_gifts_43 : decode cX9_gifts 43 = .ok (.iload 4, 2) := by decide +kernel
theorem dX9_gifts_45 : decode cX9_gifts 45 = .ok (.invokevirtual 251, 3) := by decide +kernel
theorem dX9_gifts_48 : decode cX9_gifts 48 = .ok (.istore 5, 2) := by decide +kernel
theorem dX9_gifts_50 : decode cX9_gifts 50 = .ok (.iload 5, 2) := by decide +kernel
theorem dX9_gifts_52 : decode cX9_gifts 52 = .ok (.iconst (-1), 1) := by decide +kernel
theorem dX9_gifts_53 : decode cX9_gifts 53 = .ok (.if_icmp .eq 20, 3) := by decide +kernel
theorem dX9_gifts_56 : decode cX9_gifts 56 = .ok (.iload_n 3, 1) := by decide +kernel
theorem dX9_gifts_57 : decode cX9_gifts 57 = .ok (.iconst (-1), 1) := by decide +kernel
theorem dX9_gifts_58 : decode cX9_gifts 58 = .ok (.if_icmp .eq 9, 3) := by decide +kernel
theorem dX9_gifts_61 : decode cX9_gifts 61 = .ok (.iload 5, 2) := by decide +kernel
theorem dX9_gifts_63 : decode cX9_gifts 63 = .ok (.iload_n 3, 1) := by decide +kernel
theorem dX9_gifts_64 : decode cX9_gifts 64 = .ok (.if_icmp .ge 9, 3) := by decide +kernel
theorem dX9_gifts_67 : decode cX9_gifts 67 = .ok (.iload 5, 2) := by decide +kernel
theorem dX9_gifts_69 : decode cX9_gifts 69 = .ok (.istore_n 3, 1) := by decide +kernel
theorem dX9_gifts_70 : decode cX9_gifts 70 = .ok (.iload 4, 2) := by decide +kernel
theorem dX9_gifts_72 : decode cX9_gifts 72 = .ok (.istore_n 2, 1) := by decide +kernel
theorem dX9_gifts_73 : decode cX9_gifts 73 = .ok (.iinc 4 1, 3) := by decide +kernel
theorem dX9_gifts_76 : decode cX9_gifts 76 = .ok (.goto (-57), 3) := by decide +kernel
theorem dX9_gifts_79 : decode cX9_gifts 79 = .ok (.iload_n 2, 1) := by decide +kernel
theorem dX9_gifts_80 : decode cX9_gifts 80 = .ok (.ireturn, 1) := by decide +kernel
theorem dX9_restlessBits_0 : decode cX9_restlessBits 0 = .ok (.iconst 0, 1) := by decide +kernel
theorem dX9_restlessBits_1 : decode cX9_restlessBits 1 = .ok (.istore_n 2, 1) := by decide +kernel
theorem dX9_restlessBits_2 : decode cX9_restlessBits 2 = .ok (.iconst 0, 1) := by decide +kernel
theorem dX9_restlessBits_3 : decode cX9_restlessBits 3 = .ok (.istore_n 3, 1) := by decide +kernel
theorem dX9_restlessBits_4 : decode cX9_restlessBits 4 = .ok (.iload_n 3, 1) := by decide +kernel
theorem dX9_restlessBits_5 : decode cX9_restlessBits 5 = .ok (.aload_n 1, 1) := by decide +kernel
theorem dX9_restlessBits_6 : decode cX9_restlessBits 6 = .ok (.getfield 97, 3) := by decide +kernel
theorem dX9_restlessBits_9 : decode cX9_restlessBits 9 = .ok (.if_icmp .ge 27, 3) := by decide +kernel
theorem dX9_restlessBits_12 : decode cX9_restlessBits 12 = .ok (.aload_n 0, 1) := by decide +kernel
theorem dX9_restlessBits_13 : decode cX9_restlessBits 13 = .ok (.getfield 50, 3) := by decide +kernel
theorem dX9_restlessBits_16 : decode cX9_restlessBits 16 = .ok (.aload_n 1, 1) := by decide +kernel
theorem dX9_restlessBits_17 : decode cX9_restlessBits 17 = .ok (.iload_n 3, 1) := by decide +kernel
theorem dX9_restlessBits_18 : decode cX9_restlessBits 18 = .ok (.invokevirtual 261, 3) := by decide +kernel
theorem dX9_restlessBits_21 : decode cX9_restlessBits 21 = .ok (.ifCond .eq 9, 3) := by decide +kernel
theorem dX9_restlessBits_24 : decode cX9_restlessBits 24 = .ok (.iload_n 2, 1) := by decide +kernel
theorem dX9_restlessBits_25 : decode cX9_restlessBits 25 = .ok (.iconst 1, 1) := by decide +kernel
theorem dX9_restlessBits_26 : decode cX9_restlessBits 26 = .ok (.iload_n 3, 1) := by decide +kernel
theorem dX9_restlessBits_27 : decode cX9_restlessBits 27 = .ok (.ishl, 1) := by decide +kernel
theorem dX9_restlessBits_28 : decode cX9_restlessBits 28 = .ok (.ior, 1) := by decide +kernel
theorem dX9_restlessBits_29 : decode cX9_restlessBits 29 = .ok (.istore_n 2, 1) := by decide +kernel
theorem dX9_restlessBits_30 : decode cX9_restlessBits 30 = .ok (.iinc 3 1, 3) := by decide +kernel
theorem dX9_restlessBits_33 : decode cX9_restlessBits 33 = .ok (.goto (-29), 3) := by decide +kernel
theorem dX9_restlessBits_36 : decode cX9_restlessBits 36 = .ok (.iload_n 2, 1) := by decide +kernel
theorem dX9_restlessBits_37 : decode cX9_restlessBits 37 = .ok (.ireturn, 1) := by decide +kernel
theorem dX9_restless_0 : decode cX9_restless 0 = .ok (.aload_n 0, 1) := by decide +kernel
theorem dX9_restless_1 : decode cX9_restless 1 = .ok (.getfield 19, 3) := by decide +kernel
theorem dX9_restless_4 : decode cX9_restless 4 = .ok (.getfield 97, 3) := by decide +kernel
theorem dX9_restless_7 : decode cX9_restless 7 = .ok (.ifCond .ne 8, 3) := by decide +kernel
theorem dX9_restless_10 : decode cX9_restless 10 = .ok (.bipush (-2), 2) := by decide +kernel
theorem dX9_restless_12 : decode cX9_restless 12 = .ok (.goto 11, 3) := by decide +kernel
theorem dX9_restless_15 : decode cX9_restless 15 = .ok (.aload_n 0, 1) := by decide +kernel
theorem dX9_restless_16 : decode cX9_restless 16 = .ok (.aload_n 0, 1) := by decide +kernel
theorem dX9_restless_17 : decode cX9_restless 17 = .ok (.getfield 19, 3) := by decide +kernel
theorem dX9_restless_20 : decode cX9_restless 20 = .ok (.invokevirtual 265, 3) := by decide +kernel
theorem dX9_restless_23 : decode cX9_restless 23 = .ok (.ireturn, 1) := by decide +kernel
theorem dX9_rests_0 : decode cX9_rests 0 = .ok (.iload_n 1, 1) := by decide +kernel
theorem dX9_rests_1 : decode cX9_rests 1 = .ok (.iconst 1, 1) := by decide +kernel
theorem dX9_rests_2 : decode cX9_rests 2 = .ok (.if_icmp .lt 31, 3) := by decide +kernel
theorem dX9_rests_5 : decode cX9_rests 5 = .ok (.iload_n 1, 1) := by decide +kernel
theorem dX9_rests_6 : decode cX9_rests 6 = .ok (.bipush 6, 2) := by decide +kernel
theorem dX9_rests_8 : decode cX9_rests 8 = .ok (.if_icmp .gt 25, 3) := by decide +kernel
theorem dX9_rests_11 : decode cX9_rests 11 = .ok (.aload_n 0, 1) := by decide +kernel
theorem dX9_rests_12 : decode cX9_rests 12 = .ok (.getfield 19, 3) := by decide +kernel
theorem dX9_rests_15 : decode cX9_rests 15 = .ok (.getfield 97, 3) := by decide +kernel
theorem dX9_rests_18 : decode cX9_rests 18 = .ok (.iconst 1, 1) := by decide +kernel
theorem dX9_rests_19 : decode cX9_rests 19 = .ok (.if_icmp .lt 14, 3) := by decide +kernel
theorem dX9_rests_22 : decode cX9_rests 22 = .ok (.aload_n 0, 1) := by decide +kernel
theorem dX9_rests_23 : decode cX9_rests 23 = .ok (.getfield 19, 3) := by decide +kernel
theorem dX9_rests_26 : decode cX9_rests 26 = .ok (.getfield 97, 3) := by decide +kernel
theorem dX9_rests_29 : decode cX9_rests 29 = .ok (.iconst 3, 1) := by decide +kernel
theorem dX9_rests_30 : decode cX9_rests 30 = .ok (.if_icmp .le 6, 3) := by decide +kernel
theorem dX9_rests_33 : decode cX9_rests 33 = .ok (.bipush (-2), 2) := by decide +kernel
theorem dX9_rests_35 : decode cX9_rests 35 = .ok (.ireturn, 1) := by decide +kernel
theorem dX9_rests_36 : decode cX9_rests 36 = .ok (.aload_n 0, 1) := by decide +kernel
theorem dX9_rests_37 : decode cX9_rests 37 = .ok (.invokevirtual 202, 3) := by decide +kernel
theorem dX9_rests_40 : decode cX9_rests 40 = .ok (.astore_n 2, 1) := by decide +kernel
theorem dX9_rests_41 : decode cX9_rests 41 = .ok (.iconst 1, 1) := by decide +kernel
theorem dX9_rests_42 : decode cX9_rests 42 = .ok (.iload_n 1, 1) := by decide +kernel
theorem dX9_rests_43 : decode cX9_rests 43 = .ok (.aload_n 0, 1) := by decide +kernel
theorem dX9_rests_44 : decode cX9_rests 44 = .ok (.getfield 19, 3) := by decide +kernel
theorem dX9_rests_47 : decode cX9_rests 47 = .ok (.getfield 128, 3) := by decide +kernel
theorem dX9_rests_50 : decode cX9_rests 50 = .ok (.invokestatic 135, 3) := by decide +kernel
theorem dX9_rests_53 : decode cX9_rests 53 = .ok (.iconst 1, 1) := by decide +kernel
theorem dX9_rests_54 : decode cX9_rests 54 = .ok (.iadd, 1) := by decide +kernel
theorem dX9_rests_55 : decode cX9_rests 55 = .ok (.invokestatic 269, 3) := by decide +kernel
theorem dX9_rests_58 : decode cX9_rests 58 = .ok (.istore_n 3, 1) := by decide +kernel
theorem dX9_rests_59 : decode cX9_rests 59 = .ok (.iconst 1, 1) := by decide +kernel
theorem dX9_rests_60 : decode cX9_rests 60 = .ok (.istore 4, 2) := by decide +kernel
theorem dX9_rests_62 : decode cX9_rests 62 = .ok (.iconst 0, 1) := by decide +kernel
theorem dX9_rests_63 : decode cX9_rests 63 = .ok (.istore 5, 2) := by decide +kernel
theorem dX9_rests_65 : decode cX9_rests 65 = .ok (.iload 5, 2) := by decide +kernel
theorem dX9_rests_67 : decode cX9_rests 67 = .ok (.aload_n 0, 1) := by decide +kernel
theorem dX9_rests_68 : decode cX9_rests 68 = .ok (.getfield 19, 3) := by decide +kernel
theorem dX9_rests_71 : decode cX9_rests 71 = .ok (.getfield 97, 3) := by decide +kernel
theorem dX9_rests_74 : decode cX9_rests 74 = .ok (.if_icmp .ge 26, 3) := by decide +kernel
theorem dX9_rests_77 : decode cX9_rests 77 = .ok (.aload_n 2, 1) := by decide +kernel
theorem dX9_rests_78 : decode cX9_rests 78 = .ok (.getfield 110, 3) := by decide +kernel
theorem dX9_rests_81 : decode cX9_rests 81 = .ok (.iload 5, 2) := by decide +kernel
theorem dX9_rests_83 : decode cX9_rests 83 = .ok (.aaload, 1) := by decide +kernel
theorem dX9_rests_84 : decode cX9_rests 84 = .ok (.iconst 0, 1) := by decide +kernel
theorem dX9_rests_85 : decode cX9_rests 85 = .ok (.putfield 119, 3) := by decide +kernel
theorem dX9_rests_88 : decode cX9_rests 88 = .ok (.iload 4, 2) := by decide +kernel
theorem dX9_rests_90 : decode cX9_rests 90 = .ok (.iload_n 3, 1) := by decide +kernel
theorem dX9_rests_91 : decode cX9_rests 91 = .ok (.imul, 1) := by decide +kernel
theorem dX9_rests_92 : decode cX9_rests 92 = .ok (.istore 4, 2) := by decide +kernel
theorem dX9_rests_94 : decode cX9_rests 94 = .ok (.iinc 5 1, 3) := by decide +kernel
theorem dX9_rests_97 : decode cX9_rests 97 = .ok (.goto (-32), 3) := by decide +kernel
theorem dX9_rests_100 : decode cX9_rests 100 = .ok (.iconst 0, 1) := by decide +kernel
theorem dX9_rests_101 : decode cX9_rests 101 = .ok (.istore 5, 2) := by decide +kernel
theorem dX9_rests_103 : decode cX9_rests 103 = .ok (.iconst 0, 1) := by decide +kernel
theorem dX9_rests_104 : decode cX9_rests 104 = .ok (.istore 6, 2) := by decide +kernel
theorem dX9_rests_106 : decode cX9_rests 106 = .ok (.iload 6, 2) := by decide +kernel
theorem dX9_rests_108 : decode cX9_rests 108 = .ok (.iload 4, 2) := by decide +kernel
theorem dX9_rests_110 : decode cX9_rests 110 = .ok (.if_icmp .ge 65, 3) := by decide +kernel
theorem dX9_rests_113 : decode cX9_rests 113 = .ok (.iload 6, 2) := by decide +kernel
theorem dX9_rests_115 : decode cX9_rests 115 = .ok (.istore 7, 2) := by decide +kernel
theorem dX9_rests_117 : decode cX9_rests 117 = .ok (.iconst 0, 1) := by decide +kernel
theorem dX9_rests_118 : decode cX9_rests 118 = .ok (.istore 8, 2) := by decide +kernel
theorem dX9_rests_120 : decode cX9_rests 120 = .ok (.iload 8, 2) := by decide +kernel
theorem dX9_rests_122 : decode cX9_rests 122 = .ok (.aload_n 0, 1) := by decide +kernel
theorem dX9_rests_123 : decode cX9_rests 123 = .ok (.getfield 19, 3) := by decide +kernel
theorem dX9_rests_126 : decode cX9_rests 126 = .ok (.getfield 97, 3) := by decide +kernel
theorem dX9_rests_129 : decode cX9_rests 129 = .ok (.if_icmp .ge 29, 3) := by decide +kernel
theorem dX9_rests_132 : decode cX9_rests 132 = .ok (.aload_n 2, 1) := by decide +kernel
theorem dX9_rests_133 : decode cX9_rests 133 = .ok (.getfield 110, 3) := by decide +kernel
theorem dX9_rests_136 : decode cX9_rests 136 = .ok (.iload 8, 2) := by decide +kernel
theorem dX9_rests_138 : decode cX9_rests 138 = .ok (.aaload, 1) := by decide +kernel
theorem dX9_rests_139 : decode cX9_rests 139 = .ok (.iload 7, 2) := by decide +kernel
theorem dX9_rests_141 : decode cX9_rests 141 = .ok (.iload_n 3, 1) := by decide +kernel
theorem dX9_rests_142 : decode cX9_rests 142 = .ok (.irem, 1) := by decide +kernel
theorem dX9_rests_143 : decode cX9_rests 143 = .ok (.putfield 114, 3) := by decide +kernel
theorem dX9_rests_146 : decode cX9_rests 146 = .ok (.iload 7, 2) := by decide +kernel
theorem dX9_rests_148 : decode cX9_rests 148 = .ok (.iload_n 3, 1) := by decide +kernel
theorem dX9_rests_149 : decode cX9_rests 149 = .ok (.idiv, 1) := by decide +kernel
theorem dX9_rests_150 : decode cX9_rests 150 = .ok (.istore 7, 2) := by decide +kernel
theorem dX9_rests_152 : decode cX9_rests 152 = .ok (.iinc 8 1, 3) := by decide +kernel
theorem dX9_rests_155 : decode cX9_rests 155 = .ok (.goto (-35), 3) := by decide +kernel
theorem dX9_rests_158 : decode cX9_rests 158 = .ok (.aload_n 0, 1) := by decide +kernel
theorem dX9_rests_159 : decode cX9_rests 159 = .ok (.aload_n 2, 1) := by decide +kernel
theorem dX9_rests_160 : decode cX9_rests 160 = .ok (.invokevirtual 265, 3) := by decide +kernel
theorem dX9_rests_163 : decode cX9_rests 163 = .ok (.ifCond .ne 6, 3) := by decide +kernel
theorem dX9_rests_166 : decode cX9_rests 166 = .ok (.iinc 5 1, 3) := by decide +kernel
theorem dX9_rests_169 : decode cX9_rests 169 = .ok (.iinc 6 1, 3) := by decide +kernel
theorem dX9_rests_172 : decode cX9_rests 172 = .ok (.goto (-66), 3) := by decide +kernel
theorem dX9_rests_175 : decode cX9_rests 175 = .ok (.iload 5, 2) := by decide +kernel
theorem dX9_rests_177 : decode cX9_rests 177 = .ok (.ireturn, 1) := by decide +kernel
theorem dX9_turnInThought_0 : decode cX9_turnInThought 0 = .ok (.aload_n 1, 1) := by decide +kernel
theorem dX9_turnInThought_1 : decode cX9_turnInThought 1 = .ok (.getfield 110, 3) := by decide +kernel
theorem dX9_turnInThought_4 : decode cX9_turnInThought 4 = .ok (.iload_n 2, 1) := by decide +kernel
theorem dX9_turnInThought_5 : decode cX9_turnInThought 5 = .ok (.aaload, 1) := by decide +kernel
theorem dX9_turnInThought_6 : decode cX9_turnInThought 6 = .ok (.aload_n 0, 1) := by decide +kernel
theorem dX9_turnInThought_7 : decode cX9_turnInThought 7 = .ok (.getfield 19, 3) := by decide +kernel
theorem dX9_turnInThought_10 : decode cX9_turnInThought 10 = .ok (.getfield 110, 3) := by decide +kernel
theorem dX9_turnInThought_13 : decode cX9_turnInThought 13 = .ok (.iload_n 2, 1) := by decide +kernel
theorem dX9_turnInThought_14 : decode cX9_turnInThought 14 = .ok (.aaload, 1) := by decide +kernel
theorem dX9_turnInThought_15 : decode cX9_turnInThought 15 = .ok (.iload_n 3, 1) := by decide +kernel
theorem dX9_turnInThought_16 : decode cX9_turnInThought 16 = .ok (.invokevirtual 272, 3) := by decide +kernel
theorem dX9_turnInThought_19 : decode cX9_turnInThought 19 = .ok (.putfield 275, 3) := by decide +kernel
theorem dX9_turnInThought_22 : decode cX9_turnInThought 22 = .ok (.aload_n 1, 1) := by decide +kernel
theorem dX9_turnInThought_23 : decode cX9_turnInThought 23 = .ok (.getfield 110, 3) := by decide +kernel
theorem dX9_turnInThought_26 : decode cX9_turnInThought 26 = .ok (.iload_n 2, 1) := by decide +kernel
theorem dX9_turnInThought_27 : decode cX9_turnInThought 27 = .ok (.aaload, 1) := by decide +kernel
theorem dX9_turnInThought_28 : decode cX9_turnInThought 28 = .ok (.iload_n 3, 1) := by decide +kernel
theorem dX9_turnInThought_29 : decode cX9_turnInThought 29 = .ok (.putfield 122, 3) := by decide +kernel
theorem dX9_turnInThought_32 : decode cX9_turnInThought 32 = .ok (.return_, 1) := by decide +kernel
theorem dX9_goodBy_0 : decode cX9_goodBy 0 = .ok (.aload_n 0, 1) := by decide +kernel
theorem dX9_goodBy_1 : decode cX9_goodBy 1 = .ok (.invokevirtual 202, 3) := by decide +kernel
theorem dX9_goodBy_4 : decode cX9_goodBy 4 = .ok (.astore 4, 2) := by decide +kernel
theorem dX9_goodBy_6 : decode cX9_goodBy 6 = .ok (.aload_n 0, 1) := by decide +kernel
theorem dX9_goodBy_7 : decode cX9_goodBy 7 = .ok (.aload 4, 2) := by decide +kernel
theorem dX9_goodBy_9 : decode cX9_goodBy 9 = .ok (.iload_n 1, 1) := by decide +kernel
theorem dX9_goodBy_10 : decode cX9_goodBy 10 = .ok (.iload_n 2, 1) := by decide +kernel
theorem dX9_goodBy_11 : decode cX9_goodBy 11 = .ok (.invokevirtual 278, 3) := by decide +kernel
theorem dX9_goodBy_14 : decode cX9_goodBy 14 = .ok (.iconst 0, 1) := by decide +kernel
theorem dX9_goodBy_15 : decode cX9_goodBy 15 = .ok (.istore 5, 2) := by decide +kernel
theorem dX9_goodBy_17 : decode cX9_goodBy 17 = .ok (.iload 5, 2) := by decide +kernel
theorem dX9_goodBy_19 : decode cX9_goodBy 19 = .ok (.iload_n 3, 1) := by decide +kernel
theorem dX9_goodBy_20 : decode cX9_goodBy 20 = .ok (.if_icmp .ge 19, 3) := by decide +kernel
theorem dX9_goodBy_23 : decode cX9_goodBy 23 = .ok (.aload_n 0, 1) := by decide +kernel
theorem dX9_goodBy_24 : decode cX9_goodBy 24 = .ok (.getfield 57, 3) := by decide +kernel
theorem dX9_goodBy_27 : decode cX9_goodBy 27 = .ok (.aload 4, 2) := by decide +kernel
theorem dX9_goodBy_29 : decode cX9_goodBy 29 = .ok (.iconst 1, 1) := by decide +kernel
theorem dX9_goodBy_30 : decode cX9_goodBy 30 = .ok (.invokevirtual 218, 3) := by decide +kernel
theorem dX9_goodBy_33 : decode cX9_goodBy 33 = .ok (.iinc 5 1, 3) := by decide +kernel
theorem dX9_goodBy_36 : decode cX9_goodBy 36 = .ok (.goto (-19), 3) := by decide +kernel
theorem dX9_goodBy_39 : decode cX9_goodBy 39 = .ok (.aload 4, 2) := by decide +kernel
theorem dX9_goodBy_41 : decode cX9_goodBy 41 = .ok (.getfield 110, 3) := by decide +kernel
theorem dX9_goodBy_44 : decode cX9_goodBy 44 = .ok (.iload_n 1, 1) := by decide +kernel
theorem dX9_goodBy_45 : decode cX9_goodBy 45 = .ok (.aaload, 1) := by decide +kernel
theorem dX9_goodBy_46 : decode cX9_goodBy 46 = .ok (.getfield 125, 3) := by decide +kernel
theorem dX9_goodBy_49 : decode cX9_goodBy 49 = .ok (.aload_n 0, 1) := by decide +kernel
theorem dX9_goodBy_50 : decode cX9_goodBy 50 = .ok (.getfield 19, 3) := by decide +kernel
theorem dX9_goodBy_53 : decode cX9_goodBy 53 = .ok (.getfield 110, 3) := by decide +kernel
theorem dX9_goodBy_56 : decode cX9_goodBy 56 = .ok (.iload_n 1, 1) := by decide +kernel
theorem dX9_goodBy_57 : decode cX9_goodBy 57 = .ok (.aaload, 1) := by decide +kernel
theorem dX9_goodBy_58 : decode cX9_goodBy 58 = .ok (.getfield 125, 3) := by decide +kernel
theorem dX9_goodBy_61 : decode cX9_goodBy 61 = .ok (.isub, 1) := by decide +kernel
theorem dX9_goodBy_62 : decode cX9_goodBy 62 = .ok (.ireturn, 1) := by decide +kernel
theorem dX9_total_0 : decode cX9_total 0 = .ok (.aload_n 0, 1) := by decide +kernel
theorem dX9_total_1 : decode cX9_total 1 = .ok (.iload_n 1, 1) := by decide +kernel
theorem dX9_total_2 : decode cX9_total 2 = .ok (.i2l, 1) := by decide +kernel
theorem dX9_total_3 : decode cX9_total 3 = .ok (.invokevirtual 100, 3) := by decide +kernel
theorem dX9_total_6 : decode cX9_total 6 = .ok (.ifCond .eq 28, 3) := by decide +kernel
theorem dX9_total_9 : decode cX9_total 9 = .ok (.iload_n 2, 1) := by decide +kernel
theorem dX9_total_10 : decode cX9_total 10 = .ok (.i2l, 1) := by decide +kernel
theorem dX9_total_11 : decode cX9_total 11 = .ok (.invokestatic 282, 3) := by decide +kernel
theorem dX9_total_14 : decode cX9_total 14 = .ok (.ifCond .eq 20, 3) := by decide +kernel
theorem dX9_total_17 : decode cX9_total 17 = .ok (.iload_n 3, 1) := by decide +kernel
theorem dX9_total_18 : decode cX9_total 18 = .ok (.invokestatic 104, 3) := by decide +kernel
theorem dX9_total_21 : decode cX9_total 21 = .ok (.ifCond .eq 13, 3) := by decide +kernel
theorem dX9_total_24 : decode cX9_total 24 = .ok (.aload_n 0, 1) := by decide +kernel
theorem dX9_total_25 : decode cX9_total 25 = .ok (.iload_n 1, 1) := by decide +kernel
theorem dX9_total_26 : decode cX9_total 26 = .ok (.iload_n 2, 1) := by decide +kernel
theorem dX9_total_27 : decode cX9_total 27 = .ok (.iload_n 3, 1) := by decide +kernel
theorem dX9_total_28 : decode cX9_total 28 = .ok (.invokevirtual 285, 3) := by decide +kernel
theorem dX9_total_31 : decode cX9_total 31 = .ok (.goto 5, 3) := by decide +kernel
theorem dX9_total_34 : decode cX9_total 34 = .ok (.ldc 223, 2) := by decide +kernel
theorem dX9_total_36 : decode cX9_total 36 = .ok (.ireturn, 1) := by decide +kernel
theorem dX9_way_0 : decode cX9_way 0 = .ok (.aload_n 0, 1) := by decide +kernel
theorem dX9_way_1 : decode cX9_way 1 = .ok (.iload_n 1, 1) := by decide +kernel
theorem dX9_way_2 : decode cX9_way 2 = .ok (.i2l, 1) := by decide +kernel
theorem dX9_way_3 : decode cX9_way 3 = .ok (.invokevirtual 100, 3) := by decide +kernel
theorem dX9_way_6 : decode cX9_way 6 = .ok (.ifCond .eq 10, 3) := by decide +kernel
theorem dX9_way_9 : decode cX9_way 9 = .ok (.iload_n 2, 1) := by decide +kernel
theorem dX9_way_10 : decode cX9_way 10 = .ok (.invokestatic 104, 3) := by decide +kernel
theorem dX9_way_13 : decode cX9_way 13 = .ok (.ifCond .ne 6, 3) := by decide +kernel
theorem dX9_way_16 : decode cX9_way 16 = .ok (.bipush (-2), 2) := by decide +kernel
theorem dX9_way_18 : decode cX9_way 18 = .ok (.ireturn, 1) := by decide +kernel
theorem dX9_way_19 : decode cX9_way 19 = .ok (.ldc 223, 2) := by decide +kernel
theorem dX9_way_21 : decode cX9_way 21 = .ok (.istore_n 3, 1) := by decide +kernel
theorem dX9_way_22 : decode cX9_way 22 = .ok (.iconst 0, 1) := by decide +kernel
theorem dX9_way_23 : decode cX9_way 23 = .ok (.istore 4, 2) := by decide +kernel
theorem dX9_way_25 : decode cX9_way 25 = .ok (.iconst 0, 1) := by decide +kernel
theorem dX9_way_26 : decode cX9_way 26 = .ok (.istore 5, 2) := by decide +kernel
theorem dX9_way_28 : decode cX9_way 28 = .ok (.iload 5, 2) := by decide +kernel
theorem dX9_way_30 : decode cX9_way 30 = .ok (.bipush 6, 2) := by decide +kernel
theorem dX9_way_32 : decode cX9_way 32 = .ok (.if_icmp .ge 32, 3) := by decide +kernel
theorem dX9_way_35 : decode cX9_way 35 = .ok (.aload_n 0, 1) := by decide +kernel
theorem dX9_way_36 : decode cX9_way 36 = .ok (.iload_n 1, 1) := by decide +kernel
theorem dX9_way_37 : decode cX9_way 37 = .ok (.iload 5, 2) := by decide +kernel
theorem dX9_way_39 : decode cX9_way 39 = .ok (.iload_n 2, 1) := by decide +kernel
theorem dX9_way_40 : decode cX9_way 40 = .ok (.invokevirtual 285, 3) := by decide +kernel
theorem dX9_way_43 : decode cX9_way 43 = .ok (.istore 6, 2) := by decide +kernel
theorem dX9_way_45 : decode cX9_way 45 = .ok (.iload 6, 2) := by decide +kernel
theorem dX9_way_47 : decode cX9_way 47 = .ok (.iload_n 3, 1) := by decide +kernel
theorem dX9_way_48 : decode cX9_way 48 = .ok (.if_icmp .le 10, 3) := by decide +kernel
theorem dX9_way_51 : decode cX9_way 51 = .ok (.iload 6, 2) := by decide +kernel
theorem dX9_way_53 : decode cX9_way 53 = .ok (.istore_n 3, 1) := by decide +kernel
theorem dX9_way_54 : decode cX9_way 54 = .ok (.iload 5, 2) := by decide +kernel
theorem dX9_way_56 : decode cX9_way 56 = .ok (.istore 4, 2) := by decide +kernel
theorem dX9_way_58 : decode cX9_way 58 = .ok (.iinc 5 1, 3) := by decide +kernel
theorem dX9_way_61 : decode cX9_way 61 = .ok (.goto (-33), 3) := by decide +kernel
theorem dX9_way_64 : decode cX9_way 64 = .ok (.iload 4, 2) := by decide +kernel
theorem dX9_way_66 : decode cX9_way 66 = .ok (.ireturn, 1) := by decide +kernel
theorem dX9_turnsTo_0 : decode cX9_turnsTo 0 = .ok (.aload_n 0, 1) := by decide +kernel
theorem dX9_turnsTo_1 : decode cX9_turnsTo 1 = .ok (.iload_n 1, 1) := by decide +kernel
theorem dX9_turnsTo_2 : decode cX9_turnsTo 2 = .ok (.i2l, 1) := by decide +kernel
theorem dX9_turnsTo_3 : decode cX9_turnsTo 3 = .ok (.invokevirtual 100, 3) := by decide +kernel
theorem dX9_turnsTo_6 : decode cX9_turnsTo 6 = .ok (.ifCond .eq 11, 3) := by decide +kernel
theorem dX9_turnsTo_9 : decode cX9_turnsTo 9 = .ok (.iload_n 2, 1) := by decide +kernel
theorem dX9_turnsTo_10 : decode cX9_turnsTo 10 = .ok (.i2l, 1) := by decide +kernel
theorem dX9_turnsTo_11 : decode cX9_turnsTo 11 = .ok (.invokestatic 282, 3) := by decide +kernel
theorem dX9_turnsTo_14 : decode cX9_turnsTo 14 = .ok (.ifCond .ne 6, 3) := by decide +kernel
theorem dX9_turnsTo_17 : decode cX9_turnsTo 17 = .ok (.bipush (-2), 2) := by decide +kernel
theorem dX9_turnsTo_19 : decode cX9_turnsTo 19 = .ok (.ireturn, 1) := by decide +kernel
theorem dX9_turnsTo_20 : decode cX9_turnsTo 20 = .ok (.aload_n 0, 1) := by decide +kernel
theorem dX9_turnsTo_21 : decode cX9_turnsTo 21 = .ok (.getfield 19, 3) := by decide +kernel
theorem dX9_turnsTo_24 : decode cX9_turnsTo 24 = .ok (.getfield 110, 3) := by decide +kernel
theorem dX9_turnsTo_27 : decode cX9_turnsTo 27 = .ok (.iload_n 1, 1) := by decide +kernel
theorem dX9_turnsTo_28 : decode cX9_turnsTo 28 = .ok (.aaload, 1) := by decide +kernel
theorem dX9_turnsTo_29 : decode cX9_turnsTo 29 = .ok (.getfield 122, 3) := by decide +kernel
theorem dX9_turnsTo_32 : decode cX9_turnsTo 32 = .ok (.istore_n 3, 1) := by decide +kernel
theorem dX9_turnsTo_33 : decode cX9_turnsTo 33 = .ok (.aload_n 0, 1) := by decide +kernel
theorem dX9_turnsTo_34 : decode cX9_turnsTo 34 = .ok (.aload_n 0, 1) := by decide +kernel
theorem dX9_turnsTo_35 : decode cX9_turnsTo 35 = .ok (.getfield 19, 3) := by decide +kernel
theorem dX9_turnsTo_38 : decode cX9_turnsTo 38 = .ok (.iload_n 1, 1) := by decide +kernel
theorem dX9_turnsTo_39 : decode cX9_turnsTo 39 = .ok (.iload_n 2, 1) := by decide +kernel
theorem dX9_turnsTo_40 : decode cX9_turnsTo 40 = .ok (.invokevirtual 278, 3) := by decide +kernel
theorem dX9_turnsTo_43 : decode cX9_turnsTo 43 = .ok (.iload_n 3, 1) := by decide +kernel
theorem dX9_turnsTo_44 : decode cX9_turnsTo 44 = .ok (.ireturn, 1) := by decide +kernel
theorem dX9_idle_0 : decode cX9_idle 0 = .ok (.aload_n 0, 1) := by decide +kernel
theorem dX9_idle_1 : decode cX9_idle 1 = .ok (.iload_n 1, 1) := by decide +kernel
theorem dX9_idle_2 : decode cX9_idle 2 = .ok (.invokevirtual 215, 3) := by decide +kernel
theorem dX9_idle_5 : decode cX9_idle 5 = .ok (.ifCond .ne 6, 3) := by decide +kernel
theorem dX9_idle_8 : decode cX9_idle 8 = .ok (.bipush (-2), 2) := by decide +kernel
theorem dX9_idle_10 : decode cX9_idle 10 = .ok (.ireturn, 1) := by decide +kernel
theorem dX9_idle_11 : decode cX9_idle 11 = .ok (.aload_n 0, 1) := by decide +kernel
theorem dX9_idle_12 : decode cX9_idle 12 = .ok (.invokevirtual 202, 3) := by decide +kernel
theorem dX9_idle_15 : decode cX9_idle 15 = .ok (.astore_n 2, 1) := by decide +kernel
theorem dX9_idle_16 : decode cX9_idle 16 = .ok (.iconst 0, 1) := by decide +kernel
theorem dX9_idle_17 : decode cX9_idle 17 = .ok (.istore_n 3, 1) := by decide +kernel
theorem dX9_idle_18 : decode cX9_idle 18 = .ok (.iconst 0, 1) := by decide +kernel
theorem dX9_idle_19 : decode cX9_idle 19 = .ok (.istore 4, 2) := by decide +kernel
theorem dX9_idle_21 : decode cX9_idle 21 = .ok (.iload 4, 2) := by decide +kernel
theorem dX9_idle_23 : decode cX9_idle 23 = .ok (.iload_n 1, 1) := by decide +kernel
theorem dX9_idle_24 : decode cX9_idle 24 = .ok (.if_icmp .ge 28, 3) := by decide +kernel
theorem dX9_idle_27 : decode cX9_idle 27 = .ok (.aload_n 0, 1) := by decide +kernel
theorem dX9_idle_28 : decode cX9_idle 28 = .ok (.getfield 57, 3) := by decide +kernel
theorem dX9_idle_31 : decode cX9_idle 31 = .ok (.aload_n 2, 1) := by decide +kernel
theorem dX9_idle_32 : decode cX9_idle 32 = .ok (.iconst 1, 1) := by decide +kernel
theorem dX9_idle_33 : decode cX9_idle 33 = .ok (.invokevirtual 218, 3) := by decide +kernel
theorem dX9_idle_36 : decode cX9_idle 36 = .ok (.iload_n 3, 1) := by decide +kernel
theorem dX9_idle_37 : decode cX9_idle 37 = .ok (.aload_n 0, 1) := by decide +kernel
theorem dX9_idle_38 : decode cX9_idle 38 = .ok (.getfield 57, 3) := by decide +kernel
theorem dX9_idle_41 : decode cX9_idle 41 = .ok (.getfield 289, 3) := by decide +kernel
theorem dX9_idle_44 : decode cX9_idle 44 = .ok (.iadd, 1) := by decide +kernel
theorem dX9_idle_45 : decode cX9_idle 45 = .ok (.istore_n 3, 1) := by decide +kernel
theorem dX9_idle_46 : decode cX9_idle 46 = .ok (.iinc 4 1, 3) := by decide +kernel
theorem dX9_idle_49 : decode cX9_idle 49 = .ok (.goto (-28), 3) := by decide +kernel
theorem dX9_idle_52 : decode cX9_idle 52 = .ok (.iload_n 3, 1) := by decide +kernel
theorem dX9_idle_53 : decode cX9_idle 53 = .ok (.ireturn, 1) := by decide +kernel
theorem dX9_spread_0 : decode cX9_spread 0 = .ok (.aload_n 0, 1) := by decide +kernel
theorem dX9_spread_1 : decode cX9_spread 1 = .ok (.getfield 19, 3) := by decide +kernel
theorem dX9_spread_4 : decode cX9_spread 4 = .ok (.invokevirtual 292, 3) := by decide +kernel
theorem dX9_spread_7 : decode cX9_spread 7 = .ok (.ireturn, 1) := by decide +kernel
theorem dX9_beside_0 : decode cX9_beside 0 = .ok (.aload_n 0, 1) := by decide +kernel
theorem dX9_beside_1 : decode cX9_beside 1 = .ok (.iload_n 1, 1) := by decide +kernel
theorem dX9_beside_2 : decode cX9_beside 2 = .ok (.invokevirtual 215, 3) := by decide +kernel
theorem dX9_beside_5 : decode cX9_beside 5 = .ok (.ifCond .eq 12, 3) := by decide +kernel
theorem dX9_beside_8 : decode cX9_beside 8 = .ok (.iload_n 2, 1) := by decide +kernel
theorem dX9_beside_9 : decode cX9_beside 9 = .ok (.ifCond .lt 8, 3) := by decide +kernel
theorem dX9_beside_12 : decode cX9_beside 12 = .ok (.iload_n 2, 1) := by decide +kernel
theorem dX9_beside_13 : decode cX9_beside 13 = .ok (.iconst 4, 1) := by decide +kernel
theorem dX9_beside_14 : decode cX9_beside 14 = .ok (.if_icmp .le 6, 3) := by decide +kernel
