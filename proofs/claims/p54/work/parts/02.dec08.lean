theorem dX9_round_60 : decode cX9_round 60 = .ok (.ireturn, 1) := by decide +kernel
theorem dX9_round_61 : decode cX9_round 61 = .ok (.iinc 3 1, 3) := by decide +kernel
theorem dX9_round_64 : decode cX9_round 64 = .ok (.goto (-50), 3) := by decide +kernel
theorem dX9_round_67 : decode cX9_round 67 = .ok (.iconst (-1), 1) := by decide +kernel
theorem dX9_round_68 : decode cX9_round 68 = .ok (.ireturn, 1) := by decide +kernel
theorem dX9_canHide_0 : decode cX9_canHide 0 = .ok (.aload_n 0, 1) := by decide +kernel
theorem dX9_canHide_1 : decode cX9_canHide 1 = .ok (.iload_n 1, 1) := by decide +kernel
theorem dX9_canHide_2 : decode cX9_canHide 2 = .ok (.i2l, 1) := by decide +kernel
theorem dX9_canHide_3 : decode cX9_canHide 3 = .ok (.invokevirtual 100, 3) := by decide +kernel
theorem dX9_canHide_6 : decode cX9_canHide 6 = .ok (.ifCond .eq 27, 3) := by decide +kernel
theorem dX9_canHide_9 : decode cX9_canHide 9 = .ok (.iload_n 2, 1) := by decide +kernel
theorem dX9_canHide_10 : decode cX9_canHide 10 = .ok (.ifCond .lt 23, 3) := by decide +kernel
theorem dX9_canHide_13 : decode cX9_canHide 13 = .ok (.iload_n 2, 1) := by decide +kernel
theorem dX9_canHide_14 : decode cX9_canHide 14 = .ok (.aload_n 0, 1) := by decide +kernel
theorem dX9_canHide_15 : decode cX9_canHide 15 = .ok (.getfield 19, 3) := by decide +kernel
theorem dX9_canHide_18 : decode cX9_canHide 18 = .ok (.getfield 110, 3) := by decide +kernel
theorem dX9_canHide_21 : decode cX9_canHide 21 = .ok (.iload_n 1, 1) := by decide +kernel
theorem dX9_canHide_22 : decode cX9_canHide 22 = .ok (.aaload, 1) := by decide +kernel
theorem dX9_canHide_23 : decode cX9_canHide 23 = .ok (.getfield 114, 3) := by decide +kernel
theorem dX9_canHide_26 : decode cX9_canHide 26 = .ok (.if_icmp .gt 7, 3) := by decide +kernel
theorem dX9_canHide_29 : decode cX9_canHide 29 = .ok (.iconst 1, 1) := by decide +kernel
theorem dX9_canHide_30 : decode cX9_canHide 30 = .ok (.goto 4, 3) := by decide +kernel
theorem dX9_canHide_33 : decode cX9_canHide 33 = .ok (.iconst 0, 1) := by decide +kernel
theorem dX9_canHide_34 : decode cX9_canHide 34 = .ok (.ireturn, 1) := by decide +kernel
theorem dX9_mixByFound_0 : decode cX9_mixByFound 0 = .ok (.iload_n 0, 1) := by decide +kernel
theorem dX9_mixByFound_1 : decode cX9_mixByFound 1 = .ok (.bipush 100, 2) := by decide +kernel
theorem dX9_mixByFound_3 : decode cX9_mixByFound 3 = .ok (.iload_n 2, 1) := by decide +kernel
theorem dX9_mixByFound_4 : decode cX9_mixByFound 4 = .ok (.isub, 1) := by decide +kernel
theorem dX9_mixByFound_5 : decode cX9_mixByFound 5 = .ok (.imul, 1) := by decide +kernel
theorem dX9_mixByFound_6 : decode cX9_mixByFound 6 = .ok (.iload_n 1, 1) := by decide +kernel
theorem dX9_mixByFound_7 : decode cX9_mixByFound 7 = .ok (.iload_n 2, 1) := by decide +kernel
theorem dX9_mixByFound_8 : decode cX9_mixByFound 8 = .ok (.imul, 1) := by decide +kernel
theorem dX9_mixByFound_9 : decode cX9_mixByFound 9 = .ok (.iadd, 1) := by decide +kernel
theorem dX9_mixByFound_10 : decode cX9_mixByFound 10 = .ok (.bipush 100, 2) := by decide +kernel
theorem dX9_mixByFound_12 : decode cX9_mixByFound 12 = .ok (.idiv, 1) := by decide +kernel
theorem dX9_mixByFound_13 : decode cX9_mixByFound 13 = .ok (.ireturn, 1) := by decide +kernel
theorem dX9_hides_0 : decode cX9_hides 0 = .ok (.aload_n 0, 1) := by decide +kernel
theorem dX9_hides_1 : decode cX9_hides 1 = .ok (.iload_n 1, 1) := by decide +kernel
theorem dX9_hides_2 : decode cX9_hides 2 = .ok (.iload_n 2, 1) := by decide +kernel
theorem dX9_hides_3 : decode cX9_hides 3 = .ok (.invokevirtual 345, 3) := by decide +kernel
theorem dX9_hides_6 : decode cX9_hides 6 = .ok (.ifCond .ne 6, 3) := by decide +kernel
theorem dX9_hides_9 : decode cX9_hides 9 = .ok (.ldc 223, 2) := by decide +kernel
theorem dX9_hides_11 : decode cX9_hides 11 = .ok (.ireturn, 1) := by decide +kernel
theorem dX9_hides_12 : decode cX9_hides 12 = .ok (.aload_n 0, 1) := by decide +kernel
theorem dX9_hides_13 : decode cX9_hides 13 = .ok (.getfield 19, 3) := by decide +kernel
theorem dX9_hides_16 : decode cX9_hides 16 = .ok (.getfield 110, 3) := by decide +kernel
theorem dX9_hides_19 : decode cX9_hides 19 = .ok (.iload_n 1, 1) := by decide +kernel
theorem dX9_hides_20 : decode cX9_hides 20 = .ok (.aaload, 1) := by decide +kernel
theorem dX9_hides_21 : decode cX9_hides 21 = .ok (.getfield 114, 3) := by decide +kernel
theorem dX9_hides_24 : decode cX9_hides 24 = .ok (.istore_n 3, 1) := by decide +kernel
theorem dX9_hides_25 : decode cX9_hides 25 = .ok (.aload_n 0, 1) := by decide +kernel
theorem dX9_hides_26 : decode cX9_hides 26 = .ok (.getfield 50, 3) := by decide +kernel
theorem dX9_hides_29 : decode cX9_hides 29 = .ok (.aload_n 0, 1) := by decide +kernel
theorem dX9_hides_30 : decode cX9_hides 30 = .ok (.getfield 19, 3) := by decide +kernel
theorem dX9_hides_33 : decode cX9_hides 33 = .ok (.iload_n 1, 1) := by decide +kernel
theorem dX9_hides_34 : decode cX9_hides 34 = .ok (.iconst 0, 1) := by decide +kernel
theorem dX9_hides_35 : decode cX9_hides 35 = .ok (.iconst 1, 1) := by decide +kernel
theorem dX9_hides_36 : decode cX9_hides 36 = .ok (.invokevirtual 224, 3) := by decide +kernel
theorem dX9_hides_39 : decode cX9_hides 39 = .ok (.aload_n 0, 1) := by decide +kernel
theorem dX9_hides_40 : decode cX9_hides 40 = .ok (.getfield 50, 3) := by decide +kernel
theorem dX9_hides_43 : decode cX9_hides 43 = .ok (.aload_n 0, 1) := by decide +kernel
theorem dX9_hides_44 : decode cX9_hides 44 = .ok (.getfield 19, 3) := by decide +kernel
theorem dX9_hides_47 : decode cX9_hides 47 = .ok (.iload_n 3, 1) := by decide +kernel
theorem dX9_hides_48 : decode cX9_hides 48 = .ok (.iload_n 2, 1) := by decide +kernel
theorem dX9_hides_49 : decode cX9_hides 49 = .ok (.invokevirtual 348, 3) := by decide +kernel
theorem dX9_hides_52 : decode cX9_hides 52 = .ok (.istore 4, 2) := by decide +kernel
theorem dX9_hides_54 : decode cX9_hides 54 = .ok (.aload_n 0, 1) := by decide +kernel
theorem dX9_hides_55 : decode cX9_hides 55 = .ok (.getfield 50, 3) := by decide +kernel
theorem dX9_hides_58 : decode cX9_hides 58 = .ok (.aload_n 0, 1) := by decide +kernel
theorem dX9_hides_59 : decode cX9_hides 59 = .ok (.getfield 19, 3) := by decide +kernel
theorem dX9_hides_62 : decode cX9_hides 62 = .ok (.iload_n 3, 1) := by decide +kernel
theorem dX9_hides_63 : decode cX9_hides 63 = .ok (.iload_n 2, 1) := by decide +kernel
theorem dX9_hides_64 : decode cX9_hides 64 = .ok (.isub, 1) := by decide +kernel
theorem dX9_hides_65 : decode cX9_hides 65 = .ok (.iconst 0, 1) := by decide +kernel
theorem dX9_hides_66 : decode cX9_hides 66 = .ok (.invokevirtual 348, 3) := by decide +kernel
theorem dX9_hides_69 : decode cX9_hides 69 = .ok (.istore 5, 2) := by decide +kernel
theorem dX9_hides_71 : decode cX9_hides 71 = .ok (.iload 4, 2) := by decide +kernel
theorem dX9_hides_73 : decode cX9_hides 73 = .ok (.iload 5, 2) := by decide +kernel
theorem dX9_hides_75 : decode cX9_hides 75 = .ok (.aload_n 0, 1) := by decide +kernel
theorem dX9_hides_76 : decode cX9_hides 76 = .ok (.getfield 19, 3) := by decide +kernel
theorem dX9_hides_79 : decode cX9_hides 79 = .ok (.getfield 154, 3) := by decide +kernel
theorem dX9_hides_82 : decode cX9_hides 82 = .ok (.getfield 352, 3) := by decide +kernel
theorem dX9_hides_85 : decode cX9_hides 85 = .ok (.invokestatic 355, 3) := by decide +kernel
theorem dX9_hides_88 : decode cX9_hides 88 = .ok (.ireturn, 1) := by decide +kernel
theorem dX9_edge_0 : decode cX9_edge 0 = .ok (.aload_n 0, 1) := by decide +kernel
theorem dX9_edge_1 : decode cX9_edge 1 = .ok (.iload_n 1, 1) := by decide +kernel
theorem dX9_edge_2 : decode cX9_edge 2 = .ok (.iload_n 2, 1) := by decide +kernel
theorem dX9_edge_3 : decode cX9_edge 3 = .ok (.invokevirtual 345, 3) := by decide +kernel
theorem dX9_edge_6 : decode cX9_edge 6 = .ok (.ifCond .ne 6, 3) := by decide +kernel
theorem dX9_edge_9 : decode cX9_edge 9 = .ok (.bipush (-2), 2) := by decide +kernel
theorem dX9_edge_11 : decode cX9_edge 11 = .ok (.ireturn, 1) := by decide +kernel
theorem dX9_edge_12 : decode cX9_edge 12 = .ok (.aload_n 0, 1) := by decide +kernel
theorem dX9_edge_13 : decode cX9_edge 13 = .ok (.getfield 19, 3) := by decide +kernel
theorem dX9_edge_16 : decode cX9_edge 16 = .ok (.getfield 110, 3) := by decide +kernel
theorem dX9_edge_19 : decode cX9_edge 19 = .ok (.iload_n 1, 1) := by decide +kernel
theorem dX9_edge_20 : decode cX9_edge 20 = .ok (.aaload, 1) := by decide +kernel
theorem dX9_edge_21 : decode cX9_edge 21 = .ok (.getfield 114, 3) := by decide +kernel
theorem dX9_edge_24 : decode cX9_edge 24 = .ok (.istore_n 3, 1) := by decide +kernel
theorem dX9_edge_25 : decode cX9_edge 25 = .ok (.aload_n 0, 1) := by decide +kernel
theorem dX9_edge_26 : decode cX9_edge 26 = .ok (.getfield 50, 3) := by decide +kernel
theorem dX9_edge_29 : decode cX9_edge 29 = .ok (.aload_n 0, 1) := by decide +kernel
theorem dX9_edge_30 : decode cX9_edge 30 = .ok (.getfield 19, 3) := by decide +kernel
theorem dX9_edge_33 : decode cX9_edge 33 = .ok (.iload_n 1, 1) := by decide +kernel
theorem dX9_edge_34 : decode cX9_edge 34 = .ok (.iconst 0, 1) := by decide +kernel
theorem dX9_edge_35 : decode cX9_edge 35 = .ok (.iconst 1, 1) := by decide +kernel
theorem dX9_edge_36 : decode cX9_edge 36 = .ok (.invokevirtual 224, 3) := by decide +kernel
theorem dX9_edge_39 : decode cX9_edge 39 = .ok (.aload_n 0, 1) := by decide +kernel
theorem dX9_edge_40 : decode cX9_edge 40 = .ok (.getfield 50, 3) := by decide +kernel
theorem dX9_edge_43 : decode cX9_edge 43 = .ok (.aload_n 0, 1) := by decide +kernel
theorem dX9_edge_44 : decode cX9_edge 44 = .ok (.getfield 19, 3) := by decide +kernel
theorem dX9_edge_47 : decode cX9_edge 47 = .ok (.iload_n 3, 1) := by decide +kernel
theorem dX9_edge_48 : decode cX9_edge 48 = .ok (.iload_n 2, 1) := by decide +kernel
theorem dX9_edge_49 : decode cX9_edge 49 = .ok (.invokevirtual 348, 3) := by decide +kernel
theorem dX9_edge_52 : decode cX9_edge 52 = .ok (.istore 4, 2) := by decide +kernel
theorem dX9_edge_54 : decode cX9_edge 54 = .ok (.aload_n 0, 1) := by decide +kernel
theorem dX9_edge_55 : decode cX9_edge 55 = .ok (.getfield 50, 3) := by decide +kernel
theorem dX9_edge_58 : decode cX9_edge 58 = .ok (.aload_n 0, 1) := by decide +kernel
theorem dX9_edge_59 : decode cX9_edge 59 = .ok (.getfield 19, 3) := by decide +kernel
theorem dX9_edge_62 : decode cX9_edge 62 = .ok (.iload_n 3, 1) := by decide +kernel
theorem dX9_edge_63 : decode cX9_edge 63 = .ok (.iload_n 2, 1) := by decide +kernel
theorem dX9_edge_64 : decode cX9_edge 64 = .ok (.isub, 1) := by decide +kernel
theorem dX9_edge_65 : decode cX9_edge 65 = .ok (.iconst 0, 1) := by decide +kernel
theorem dX9_edge_66 : decode cX9_edge 66 = .ok (.invokevirtual 348, 3) := by decide +kernel
theorem dX9_edge_69 : decode cX9_edge 69 = .ok (.istore 5, 2) := by decide +kernel
theorem dX9_edge_71 : decode cX9_edge 71 = .ok (.aload_n 0, 1) := by decide +kernel
theorem dX9_edge_72 : decode cX9_edge 72 = .ok (.getfield 50, 3) := by decide +kernel
theorem dX9_edge_75 : decode cX9_edge 75 = .ok (.aload_n 0, 1) := by decide +kernel
theorem dX9_edge_76 : decode cX9_edge 76 = .ok (.getfield 19, 3) := by decide +kernel
theorem dX9_edge_79 : decode cX9_edge 79 = .ok (.iload_n 3, 1) := by decide +kernel
theorem dX9_edge_80 : decode cX9_edge 80 = .ok (.iconst 0, 1) := by decide +kernel
theorem dX9_edge_81 : decode cX9_edge 81 = .ok (.invokevirtual 348, 3) := by decide +kernel
theorem dX9_edge_84 : decode cX9_edge 84 = .ok (.istore 6, 2) := by decide +kernel
theorem dX9_edge_86 : decode cX9_edge 86 = .ok (.iconst 0, 1) := by decide +kernel
theorem dX9_edge_87 : decode cX9_edge 87 = .ok (.istore 7, 2) := by decide +kernel
theorem dX9_edge_89 : decode cX9_edge 89 = .ok (.iload 7, 2) := by decide +kernel
theorem dX9_edge_91 : decode cX9_edge 91 = .ok (.bipush 100, 2) := by decide +kernel
theorem dX9_edge_93 : decode cX9_edge 93 = .ok (.if_icmp .gt 26, 3) := by decide +kernel
theorem dX9_edge_96 : decode cX9_edge 96 = .ok (.iload 4, 2) := by decide +kernel
theorem dX9_edge_98 : decode cX9_edge 98 = .ok (.iload 5, 2) := by decide +kernel
theorem dX9_edge_100 : decode cX9_edge 100 = .ok (.iload 7, 2) := by decide +kernel
theorem dX9_edge_102 : decode cX9_edge 102 = .ok (.invokestatic 355, 3) := by decide +kernel
theorem dX9_edge_105 : decode cX9_edge 105 = .ok (.iload 6, 2) := by decide +kernel
theorem dX9_edge_107 : decode cX9_edge 107 = .ok (.if_icmp .gt 6, 3) := by decide +kernel
theorem dX9_edge_110 : decode cX9_edge 110 = .ok (.iload 7, 2) := by decide +kernel
theorem dX9_edge_112 : decode cX9_edge 112 = .ok (.ireturn, 1) := by decide +kernel
theorem dX9_edge_113 : decode cX9_edge 113 = .ok (.iinc 7 1, 3) := by decide +kernel
theorem dX9_edge_116 : decode cX9_edge 116 = .ok (.goto (-27), 3) := by decide +kernel
theorem dX9_edge_119 : decode cX9_edge 119 = .ok (.iconst (-1), 1) := by decide +kernel
theorem dX9_edge_120 : decode cX9_edge 120 = .ok (.ireturn, 1) := by decide +kernel
theorem dX9_pays_0 : decode cX9_pays 0 = .ok (.aload_n 0, 1) := by decide +kernel
theorem dX9_pays_1 : decode cX9_pays 1 = .ok (.iload_n 1, 1) := by decide +kernel
theorem dX9_pays_2 : decode cX9_pays 2 = .ok (.i2l, 1) := by decide +kernel
theorem dX9_pays_3 : decode cX9_pays 3 = .ok (.invokevirtual 100, 3) := by decide +kernel
theorem dX9_pays_6 : decode cX9_pays 6 = .ok (.ifCond .eq 10, 3) := by decide +kernel
theorem dX9_pays_9 : decode cX9_pays 9 = .ok (.iload_n 2, 1) := by decide +kernel
theorem dX9_pays_10 : decode cX9_pays 10 = .ok (.invokestatic 104, 3) := by decide +kernel
theorem dX9_pays_13 : decode cX9_pays 13 = .ok (.ifCond .ne 6, 3) := by decide +kernel
theorem dX9_pays_16 : decode cX9_pays 16 = .ok (.bipush (-2), 2) := by decide +kernel
theorem dX9_pays_18 : decode cX9_pays 18 = .ok (.ireturn, 1) := by decide +kernel
theorem dX9_pays_19 : decode cX9_pays 19 = .ok (.aload_n 0, 1) := by decide +kernel
theorem dX9_pays_20 : decode cX9_pays 20 = .ok (.invokevirtual 202, 3) := by decide +kernel
theorem dX9_pays_23 : decode cX9_pays 23 = .ok (.astore_n 3, 1) := by decide +kernel
theorem dX9_pays_24 : decode cX9_pays 24 = .ok (.iconst 0, 1) := by decide +kernel
theorem dX9_pays_25 : decode cX9_pays 25 = .ok (.istore 4, 2) := by decide +kernel
theorem dX9_pays_27 : decode cX9_pays 27 = .ok (.iconst 0, 1) := by decide +kernel
theorem dX9_pays_28 : decode cX9_pays 28 = .ok (.istore 5, 2) := by decide +kernel
theorem dX9_pays_30 : decode cX9_pays 30 = .ok (.iload 5, 2) := by decide +kernel
theorem dX9_pays_32 : decode cX9_pays 32 = .ok (.iload_n 2, 1) := by decide +kernel
theorem dX9_pays_33 : decode cX9_pays 33 = .ok (.if_icmp .ge 31, 3) := by decide +kernel
theorem dX9_pays_36 : decode cX9_pays 36 = .ok (.aload_n 0, 1) := by decide +kernel
theorem dX9_pays_37 : decode cX9_pays 37 = .ok (.getfield 57, 3) := by decide +kernel
theorem dX9_pays_40 : decode cX9_pays 40 = .ok (.aload_n 3, 1) := by decide +kernel
theorem dX9_pays_41 : decode cX9_pays 41 = .ok (.iconst 1, 1) := by decide +kernel
theorem dX9_pays_42 : decode cX9_pays 42 = .ok (.invokevirtual 218, 3) := by decide +kernel
theorem dX9_pays_45 : decode cX9_pays 45 = .ok (.iload 4, 2) := by decide +kernel
theorem dX9_pays_47 : decode cX9_pays 47 = .ok (.aload_n 0, 1) := by decide +kernel
theorem dX9_pays_48 : decode cX9_pays 48 = .ok (.getfield 57, 3) := by decide +kernel
theorem dX9_pays_51 : decode cX9_pays 51 = .ok (.iload_n 1, 1) := by decide +kernel
theorem dX9_pays_52 : decode cX9_pays 52 = .ok (.invokevirtual 358, 3) := by decide +kernel
theorem dX9_pays_55 : decode cX9_pays 55 = .ok (.iadd, 1) := by decide +kernel
theorem dX9_pays_56 : decode cX9_pays 56 = .ok (.istore 4, 2) := by decide +kernel
theorem dX9_pays_58 : decode cX9_pays 58 = .ok (.iinc 5 1, 3) := by decide +kernel
theorem dX9_pays_61 : decode cX9_pays 61 = .ok (.goto (-31), 3) := by decide +kernel
theorem dX9_pays_64 : decode cX9_pays 64 = .ok (.iload 4, 2) := by decide +kernel
theorem dX9_pays_66 : decode cX9_pays 66 = .ok (.ireturn, 1) := by decide +kernel
theorem dX9_quiet_0 : decode cX9_quiet 0 = .ok (.aload_n 0, 1) := by decide +kernel
theorem dX9_quiet_1 : decode cX9_quiet 1 = .ok (.iload_n 1, 1) := by decide +kernel
theorem dX9_quiet_2 : decode cX9_quiet 2 = .ok (.invokevirtual 215, 3) := by decide +kernel
theorem dX9_quiet_5 : decode cX9_quiet 5 = .ok (.ifCond .eq 12, 3) := by decide +kernel
theorem dX9_quiet_8 : decode cX9_quiet 8 = .ok (.iload_n 2, 1) := by decide +kernel
theorem dX9_quiet_9 : decode cX9_quiet 9 = .ok (.ifCond .lt 8, 3) := by decide +kernel
theorem dX9_quiet_12 : decode cX9_quiet 12 = .ok (.iload_n 2, 1) := by decide +kernel
theorem dX9_quiet_13 : decode cX9_quiet 13 = .ok (.iconst 1, 1) := by decide +kernel
theorem dX9_quiet_14 : decode cX9_quiet 14 = .ok (.if_icmp .le 6, 3) := by decide +kernel
theorem dX9_quiet_17 : decode cX9_quiet 17 = .ok (.bipush (-2), 2) := by decide +kernel
theorem dX9_quiet_19 : decode cX9_quiet 19 = .ok (.ireturn, 1) := by decide +kernel
theorem dX9_quiet_20 : decode cX9_quiet 20 = .ok (.aload_n 0, 1) := by decide +kernel
theorem dX9_quiet_21 : decode cX9_quiet 21 = .ok (.invokevirtual 202, 3) := by decide +kernel
theorem dX9_quiet_24 : decode cX9_quiet 24 = .ok (.astore_n 3, 1) := by decide +kernel
theorem dX9_quiet_25 : decode cX9_quiet 25 = .ok (.iconst 0, 1) := by decide +kernel
theorem dX9_quiet_26 : decode cX9_quiet 26 = .ok (.istore 4, 2) := by decide +kernel
theorem dX9_quiet_28 : decode cX9_quiet 28 = .ok (.iconst 0, 1) := by decide +kernel
theorem dX9_quiet_29 : decode cX9_quiet 29 = .ok (.istore 5, 2) := by decide +kernel
theorem dX9_quiet_31 : decode cX9_quiet 31 = .ok (.iconst 1, 1) := by decide +kernel
theorem dX9_quiet_32 : decode cX9_quiet 32 = .ok (.istore 6, 2) := by decide +kernel
theorem dX9_quiet_34 : decode cX9_quiet 34 = .ok (.iload 6, 2) := by decide +kernel
theorem dX9_quiet_36 : decode cX9_quiet 36 = .ok (.iload_n 1, 1) := by decide +kernel
theorem dX9_quiet_37 : decode cX9_quiet 37 = .ok (.if_icmp .gt 45, 3) := by decide +kernel
theorem dX9_quiet_40 : decode cX9_quiet 40 = .ok (.aload_n 0, 1) := by decide +kernel
theorem dX9_quiet_41 : decode cX9_quiet 41 = .ok (.getfield 57, 3) := by decide +kernel
theorem dX9_quiet_44 : decode cX9_quiet 44 = .ok (.aload_n 3, 1) := by decide +kernel
theorem dX9_quiet_45 : decode cX9_quiet 45 = .ok (.iconst 1, 1) := by decide +kernel
theorem dX9_quiet_46 : decode cX9_quiet 46 = .ok (.invokevirtual 218, 3) := by decide +kernel
theorem dX9_quiet_49 : decode cX9_quiet 49 = .ok (.aload_n 0, 1) := by decide +kernel
theorem dX9_quiet_50 : decode cX9_quiet 50 = .ok (.getfield 57, 3) := by decide +kernel
theorem dX9_quiet_53 : decode cX9_quiet 53 = .ok (.getfield 222, 3) := by decide +kernel
theorem dX9_quiet_56 : decode cX9_quiet 56 = .ok (.ifCond .ne 20, 3) := by decide +kernel
theorem dX9_quiet_59 : decode cX9_quiet 59 = .ok (.iinc 4 1, 3) := by decide +kernel
theorem dX9_quiet_62 : decode cX9_quiet 62 = .ok (.iload 5, 2) := by decide +kernel
theorem dX9_quiet_64 : decode cX9_quiet 64 = .ok (.ifCond .ne 8, 3) := by decide +kernel
theorem dX9_quiet_67 : decode cX9_quiet 67 = .ok (.iload 6, 2) := by decide +kernel
theorem dX9_quiet_69 : decode cX9_quiet 69 = .ok (.goto 5, 3) := by decide +kernel
theorem dX9_quiet_72 : decode cX9_quiet 72 = .ok (.iload 5, 2) := by decide +kernel
theorem dX9_quiet_74 : decode cX9_quiet 74 = .ok (.istore 5, 2) := by decide +kernel
theorem dX9_quiet_76 : decode cX9_quiet 76 = .ok (.iinc 6 1, 3) := by decide +kernel
theorem dX9_quiet_79 : decode cX9_quiet 79 = .ok (.goto (-45), 3) := by decide +kernel
theorem dX9_quiet_82 : decode cX9_quiet 82 = .ok (.iload_n 2, 1) := by decide +kernel
theorem dX9_quiet_83 : decode cX9_quiet 83 = .ok (.ifCond .ne 8, 3) := by decide +kernel
theorem dX9_quiet_86 : decode cX9_quiet 86 = .ok (.iload 4, 2) := by decide +kernel
theorem dX9_quiet_88 : decode cX9_quiet 88 = .ok (.goto 5, 3) := by decide +kernel
theorem dX9_quiet_91 : decode cX9_quiet 91 = .ok (.iload 5, 2) := by decide +kernel
theorem dX9_quiet_93 : decode cX9_quiet 93 = .ok (.ireturn, 1) := by decide +kernel
theorem dX9_hasAsNow_0 : decode cX9_hasAsNow 0 = .ok (.iconst 0, 1) := by decide +kernel
theorem dX9_hasAsNow_1 : decode cX9_hasAsNow 1 = .ok (.istore_n 2, 1) := by decide +kernel
theorem dX9_hasAsNow_2 : decode cX9_hasAsNow 2 = .ok (.iload_n 2, 1) := by decide +kernel
theorem dX9_hasAsNow_3 : decode cX9_hasAsNow 3 = .ok (.aload_n 1, 1) := by decide +kernel
theorem dX9_hasAsNow_4 : decode cX9_hasAsNow 4 = .ok (.getfield 97, 3) := by decide +kernel
theorem dX9_hasAsNow_7 : decode cX9_hasAsNow 7 = .ok (.if_icmp .ge 35, 3) := by decide +kernel
theorem dX9_hasAsNow_10 : decode cX9_hasAsNow 10 = .ok (.aload_n 1, 1) := by decide +kernel
theorem dX9_hasAsNow_11 : decode cX9_hasAsNow 11 = .ok (.getfield 110, 3) := by decide +kernel
theorem dX9_hasAsNow_14 : decode cX9_hasAsNow 14 = .ok (.iload_n 2, 1) := by decide +kernel
theorem dX9_hasAsNow_15 : decode cX9_hasAsNow 15 = .ok (.aaload, 1) := by decide +kernel
theorem dX9_hasAsNow_16 : decode cX9_hasAsNow 16 = .ok (.getfield 114, 3) := by decide +kernel
theorem dX9_hasAsNow_19 : decode cX9_hasAsNow 19 = .ok (.aload_n 0, 1) := by decide +kernel
theorem dX9_hasAsNow_20 : decode cX9_hasAsNow 20 = .ok (.getfield 19, 3) := by decide +kernel
theorem dX9_hasAsNow_23 : decode cX9_hasAsNow 23 = .ok (.getfield 110, 3) := by decide +kernel
theorem dX9_hasAsNow_26 : decode cX9_hasAsNow 26 = .ok (.iload_n 2, 1) := by decide +kernel
theorem dX9_hasAsNow_27 : decode cX9_hasAsNow 27 = .ok (.aaload, 1) := by decide +kernel
theorem dX9_hasAsNow_28 : decode cX9_hasAsNow 28 = .ok (.getfield 114, 3) := by decide +kernel
theorem dX9_hasAsNow_31 : decode cX9_hasAsNow 31 = .ok (.if_icmp .eq 5, 3) := by decide +kernel
theorem dX9_hasAsNow_34 : decode cX9_hasAsNow 34 = .ok (.iconst 0, 1) := by decide +kernel
theorem dX9_hasAsNow_35 : decode cX9_hasAsNow 35 = .ok (.ireturn, 1) := by decide +kernel
theorem dX9_hasAsNow_36 : decode cX9_hasAsNow 36 = .ok (.iinc 2 1, 3) := by decide +kernel
theorem dX9_hasAsNow_39 : decode cX9_hasAsNow 39 = .ok (.goto (-37), 3) := by decide +kernel
theorem dX9_hasAsNow_42 : decode cX9_hasAsNow 42 = .ok (.iconst 1, 1) := by decide +kernel
theorem dX9_hasAsNow_43 : decode cX9_hasAsNow 43 = .ok (.ireturn, 1) := by decide +kernel
theorem dX9_again_0 : decode cX9_again 0 = .ok (.aload_n 0, 1) := by decide +kernel
theorem dX9_again_1 : decode cX9_again 1 = .ok (.iload_n 1, 1) := by decide +kernel
theorem dX9_again_2 : decode cX9_again 2 = .ok (.invokevirtual 215, 3) := by decide +kernel
theorem dX9_again_5 : decode cX9_again 5 = .ok (.ifCond .ne 6, 3) := by decide +kernel
theorem dX9_again_8 : decode cX9_again 8 = .ok (.bipush (-2), 2) := by decide +kernel
theorem dX9_again_10 : decode cX9_again 10 = .ok (.ireturn, 1) := by decide +kernel
theorem dX9_again_11 : decode cX9_again 11 = .ok (.aload_n 0, 1) := by decide +kernel
theorem dX9_again_12 : decode cX9_again 12 = .ok (.invokevirtual 202, 3) := by decide +kernel
theorem dX9_again_15 : decode cX9_again 15 = .ok (.astore_n 2, 1) := by decide +kernel
theorem dX9_again_16 : decode cX9_again 16 = .ok (.iconst 1, 1) := by decide +kernel
theorem dX9_again_17 : decode cX9_again 17 = .ok (.istore_n 3, 1) := by decide +kernel
theorem dX9_again_18 : decode cX9_again 18 = .ok (.iload_n 3, 1) := by decide +kernel
theorem dX9_again_19 : decode cX9_again 19 = .ok (.iload_n 1, 1) := by decide +kernel
theorem dX9_again_20 : decode cX9_again 20 = .ok (.if_icmp .gt 28, 3) := by decide +kernel
theorem dX9_again_23 : decode cX9_again 23 = .ok (.aload_n 0, 1) := by decide +kernel
theorem dX9_again_24 : decode cX9_again 24 = .ok (.getfield 57, 3) := by decide +kernel
theorem dX9_again_27 : decode cX9_again 27 = .ok (.aload_n 2, 1) := by decide +kernel
theorem dX9_again_28 : decode cX9_again 28 = .ok (.iconst 1, 1) := by decide +kernel
theorem dX9_again_29 : decode cX9_again 29 = .ok (.invokevirtual 218, 3) := by decide +kernel
theorem dX9_again_32 : decode cX9_again 32 = .ok (.aload_n 0, 1) := by decide +kernel
theorem dX9_again_33 : decode cX9_again 33 = .ok (.aload_n 2, 1) := by decide +kernel
theorem dX9_again_34 : decode cX9_again 34 = .ok (.invokevirtual 359, 3) := by decide +kernel
theorem dX9_again_37 : decode cX9_again 37 = .ok (.ifCond .eq 5, 3) := by decide +kernel
theorem dX9_again_40 : decode cX9_again 40 = .ok (.iload_n 3, 1) := by decide +kernel
theorem dX9_again_41 : decode cX9_again 41 = .ok (.ireturn, 1) := by decide +kernel
theorem dX9_again_42 : decode cX9_again 42 = .ok (.iinc 3 1, 3) := by decide +kernel
theorem dX9_again_45 : decode cX9_again 45 = .ok (.goto (-27), 3) := by decide +kernel
theorem dX9_again_48 : decode cX9_again 48 = .ok (.iconst (-1), 1) := by decide +kernel
theorem dX9_again_49 : decode cX9_again 49 = .ok (.ireturn, 1) := by decide +kernel
theorem dX9_alike_0 : decode cX9_alike 0 = .ok (.aload_n 0, 1) := by decide +kernel
theorem dX9_alike_1 : decode cX9_alike 1 = .ok (.iload_n 1, 1) := by decide +kernel
theorem dX9_alike_2 : decode cX9_alike 2 = .ok (.invokevirtual 215, 3) := by decide +kernel
theorem dX9_alike_5 : decode cX9_alike 5 = .ok (.ifCond .ne 6, 3) := by decide +kernel
theorem dX9_alike_8 : decode cX9_alike 8 = .ok (.bipush (-2), 2) := by decide +kernel
theorem dX9_alike_10 : decode cX9_alike 10 = .ok (.ireturn, 1) := by decide +kernel
theorem dX9_alike_11 : decode cX9_alike 11 = .ok (.aload_n 0, 1) := by decide +kernel
theorem dX9_alike_12 : decode cX9_alike 12 = .ok (.invokevirtual 202, 3) := by decide +kernel
theorem dX9_alike_15 : decode cX9_alike 15 = .ok (.astore_n 2, 1) := by decide +kernel
theorem dX9_alike_16 : decode cX9_alike 16 = .ok (.iconst 1, 1) := by decide +kernel
theorem dX9_alike_17 : decode cX9_alike 17 = .ok (.istore_n 3, 1) := by decide +kernel
theorem dX9_alike_18 : decode cX9_alike 18 = .ok (.iload_n 3, 1) := by decide +kernel
theorem dX9_alike_19 : decode cX9_alike 19 = .ok (.iload_n 1, 1) := by decide +kernel
theorem dX9_alike_20 : decode cX9_alike 20 = .ok (.if_icmp .gt 27, 3) := by decide +kernel
theorem dX9_alike_23 : decode cX9_alike 23 = .ok (.aload_n 0, 1) := by decide +kernel
theorem dX9_alike_24 : decode cX9_alike 24 = .ok (.getfield 57, 3) := by decide +kernel
theorem dX9_alike_27 : decode cX9_alike 27 = .ok (.aload_n 2, 1) := by decide +kernel
theorem dX9_alike_28 : decode cX9_alike 28 = .ok (.iconst 1, 1) := by decide +kernel
theorem dX9_alike_29 : decode cX9_alike 29 = .ok (.invokevirtual 218, 3) := by decide +kernel
theorem dX9_alike_32 : decode cX9_alike 32 = .ok (.aload_n 2, 1) := by decide +kernel
theorem dX9_alike_33 : decode cX9_alike 33 = .ok (.invokevirtual 292, 3) := by decide +kernel
theorem dX9_alike_36 : decode cX9_alike 36 = .ok (.ifCond .ne 5, 3) := by decide +kernel
theorem dX9_alike_39 : decode cX9_alike 39 = .ok (.iload_n 3, 1) := by decide +kernel
theorem dX9_alike_40 : decode cX9_alike 40 = .ok (.ireturn, 1) := by decide +kernel
theorem dX9_alike_41 : decode cX9_alike 41 = .ok (.iinc 3 1, 3) := by decide +kernel
theorem dX9_alike_44 : decode cX9_alike 44 = .ok (.goto (-26), 3) := by decide +kernel
theorem dX9_alike_47 : decode cX9_alike 47 = .ok (.iconst (-1), 1) := by decide +kernel
theorem dX9_alike_48 : decode cX9_alike 48 = .ok (.ireturn, 1) := by decide +kernel
theorem dX9_tellsWays_0 : decode cX9_tellsWays 0 = .ok (.aload_n 1, 1) := by decide +kernel
theorem dX9_tellsWays_1 : decode cX9_tellsWays 1 = .ok (.getfield 198, 3) := by decide +kernel
theorem dX9_tellsWays_4 : decode cX9_tellsWays 4 = .ok (.ifCond .eq 20, 3) := by decide +kernel
theorem dX9_tellsWays_7 : decode cX9_tellsWays 7 = .ok (.aload_n 1, 1) := by decide +kernel
theorem dX9_tellsWays_8 : decode cX9_tellsWays 8 = .ok (.getfield 206, 3) := by decide +kernel
theorem dX9_tellsWays_11 : decode cX9_tellsWays 11 = .ok (.iconst 1, 1) := by decide +kernel
theorem dX9_tellsWays_12 : decode cX9_tellsWays 12 = .ok (.if_icmp .lt 12, 3) := by decide +kernel
theorem dX9_tellsWays_15 : decode cX9_tellsWays 15 = .ok (.aload_n 1, 1) := by decide +kernel
theorem dX9_tellsWays_16 : decode cX9_tellsWays 16 = .ok (.getfield 206, 3) := by decide +kernel
theorem dX9_tellsWays_19 : decode cX9_tellsWays 19 = .ok (.bipush 30, 2) := by decide +kernel
theorem dX9_tellsWays_21 : decode cX9_tellsWays 21 = .ok (.if_icmp .le 5, 3) := by decide +kernel
theorem dX9_tellsWays_24 : decode cX9_tellsWays 24 = .ok (.iconst 0, 1) := by decide +kernel
theorem dX9_tellsWays_25 : decode cX9_tellsWays 25 = .ok (.ireturn, 1) := by decide +kernel
theorem dX9_tellsWays_26 : decode cX9_tellsWays 26 = .ok (.iconst 0, 1) := by decide +kernel
theorem dX9_tellsWays_27 : decode cX9_tellsWays 27 = .ok (.istore_n 2, 1) := by decide +kernel
theorem dX9_tellsWays_28 : decode cX9_tellsWays 28 = .ok (.iload_n 2, 1) := by decide +kernel
theorem dX9_tellsWays_29 : decode cX9_tellsWays 29 = .ok (.aload_n 1, 1) := by decide +kernel
theorem dX9_tellsWays_30 : decode cX9_tellsWays 30 = .ok (.getfield 206, 3) := by decide +kernel
theorem dX9_tellsWays_33 : decode cX9_tellsWays 33 = .ok (.if_icmp .ge 23, 3) := by decide +kernel
theorem dX9_tellsWays_36 : decode cX9_tellsWays 36 = .ok (.aload_n 1, 1) := by decide +kernel
theorem dX9_tellsWays_37 : decode cX9_tellsWays 37 = .ok (.getfield 207, 3) := by decide +kernel
theorem dX9_tellsWays_40 : decode cX9_tellsWays 40 = .ok (.iload_n 2, 1) := by decide +kernel
theorem dX9_tellsWays_41 : decode cX9_tellsWays 41 = .ok (.laload, 1) := by decide +kernel
theorem dX9_tellsWays_42 : decode cX9_tellsWays 42 = .ok (.invokestatic 282, 3) := by decide +kernel
theorem dX9_tellsWays_45 : decode cX9_tellsWays 45 = .ok (.ifCond .ne 5, 3) := by decide +kernel
theorem dX9_tellsWays_48 : decode cX9_tellsWays 48 = .ok (.iconst 0, 1) := by decide +kernel
theorem dX9_tellsWays_49 : decode cX9_tellsWays 49 = .ok (.ireturn, 1) := by decide +kernel
theorem dX9_tellsWays_50 : decode cX9_tellsWays 50 = .ok (.iinc 2 1, 3) := by decide +kernel
theorem dX9_tellsWays_53 : decode cX9_tellsWays 53 = .ok (.goto (-25), 3) := by decide +kernel
theorem dX9_tellsWays_56 : decode cX9_tellsWays 56 = .ok (.iconst 1, 1) := by decide +kernel
theorem dX9_tellsWays_57 : decode cX9_tellsWays 57 = .ok (.ireturn, 1) := by decide +kernel
theorem dX9_follows_0 : decode cX9_follows 0 = .ok (.aload_n 0, 1) := by decide +kernel
theorem dX9_follows_1 : decode cX9_follows 1 = .ok (.iload_n 1, 1) := by decide +kernel
theorem dX9_follows_2 : decode cX9_follows 2 = .ok (.i2l, 1) := by decide +kernel
theorem dX9_follows_3 : decode cX9_follows 3 = .ok (.invokevirtual 100, 3) := by decide +kernel
theorem dX9_follows_6 : decode cX9_follows 6 = .ok (.ifCond .eq 25, 3) := by decide +kernel
theorem dX9_follows_9 : decode cX9_follows 9 = .ok (.iload_n 2, 1) := by decide +kernel
theorem dX9_follows_10 : decode cX9_follows 10 = .ok (.ifCond .lt 21, 3) := by decide +kernel
theorem dX9_follows_13 : decode cX9_follows 13 = .ok (.iload_n 2, 1) := by decide +kernel
theorem dX9_follows_14 : decode cX9_follows 14 = .ok (.iconst 4, 1) := by decide +kernel
theorem dX9_follows_15 : decode cX9_follows 15 = .ok (.if_icmp .ge 16, 3) := by decide +kernel
theorem dX9_follows_18 : decode cX9_follows 18 = .ok (.aload_n 0, 1) := by decide +kernel
theorem dX9_follows_19 : decode cX9_follows 19 = .ok (.aload_n 0, 1) := by decide +kernel
theorem dX9_follows_20 : decode cX9_follows 20 = .ok (.getfield 36, 3) := by decide +kernel
theorem dX9_follows_23 : decode cX9_follows 23 = .ok (.iload_n 2, 1) := by decide +kernel
theorem dX9_follows_24 : decode cX9_follows 24 = .ok (.aaload, 1) := by decide +kernel
theorem dX9_follows_25 : decode cX9_follows 25 = .ok (.invokevirtual 363, 3) := by decide +kernel
theorem dX9_follows_28 : decode cX9_follows 28 = .ok (.ifCond .ne 6, 3) := by decide +kernel
theorem dX9_follows_31 : decode cX9_follows 31 = .ok (.ldc 223, 2) := by decide +kernel
theorem dX9_follows_33 : decode cX9_follows 33 = .ok (.ireturn, 1) := by decide +kernel
theorem dX9_follows_34 : decode cX9_follows 34 = .ok (.aload_n 0, 1) := by decide +kernel
theorem dX9_follows_35 : decode cX9_follows 35 = .ok (.getfield 36, 3) := by decide +kernel
theorem dX9_follows_38 : decode cX9_follows 38 = .ok (.iload_n 2, 1) := by decide +kernel
theorem dX9_follows_39 : decode cX9_follows 39 = .ok (.aaload, 1) := by decide +kernel
theorem dX9_follows_40 : decode cX9_follows 40 = .ok (.astore_n 3, 1) := by decide +kernel
theorem dX9_follows_41 : decode cX9_follows 41 = .ok (.aload_n 0, 1) := by decide +kernel
theorem dX9_follows_42 : decode cX9_follows 42 = .ok (.invokevirtual 202, 3) := by decide +kernel
theorem dX9_follows_45 : decode cX9_follows 45 = .ok (.astore 4, 2) := by decide +kernel
theorem dX9_follows_47 : decode cX9_follows 47 = .ok (.iconst 0, 1) := by decide +kernel
theorem dX9_follows_48 : decode cX9_follows 48 = .ok (.istore 5, 2) := by decide +kernel
theorem dX9_follows_50 : decode cX9_follows 50 = .ok (.iload 5, 2) := by decide +kernel
theorem dX9_follows_52 : decode cX9_follows 52 = .ok (.aload_n 3, 1) := by decide +kernel
theorem dX9_follows_53 : decode cX9_follows 53 = .ok (.getfield 206, 3) := by decide +kernel
theorem dX9_follows_56 : decode cX9_follows 56 = .ok (.if_icmp .ge 34, 3) := by decide +kernel
theorem dX9_follows_59 : decode cX9_follows 59 = .ok (.aload_n 0, 1) := by decide +kernel
theorem dX9_follows_60 : decode cX9_follows 60 = .ok (.aload 4, 2) := by decide +kernel
theorem dX9_follows_62 : decode cX9_follows 62 = .ok (.iload_n 1, 1) := by decide +kernel
theorem dX9_follows_63 : decode cX9_follows 63 = .ok (.aload_n 3, 1) := by decide +kernel
theorem dX9_follows_64 : decode cX9_follows 64 = .ok (.getfield 207, 3) := by decide +kernel
theorem dX9_follows_67 : decode cX9_follows 67 = .ok (.iload 5, 2) := by decide +kernel
theorem dX9_follows_69 : decode cX9_follows 69 = .ok (.laload, 1) := by decide +kernel
theorem dX9_follows_70 : decode cX9_follows 70 = .ok (.l2i, 1) := by decide +kernel
theorem dX9_follows_71 : decode cX9_follows 71 = .ok (.invokevirtual 278, 3) := by decide +kernel
theorem dX9_follows_74 : decode cX9_follows 74 = .ok (.aload_n 0, 1) := by decide +kernel
theorem dX9_follows_75 : decode cX9_follows 75 = .ok (.getfield 57, 3) := by decide +kernel
theorem dX9_follows_78 : decode cX9_follows 78 = .ok (.aload 4, 2) := by decide +kernel
theorem dX9_follows_80 : decode cX9_follows 80 = .ok (.iconst 1, 1) := by decide +kernel
theorem dX9_follows_81 : decode cX9_follows 81 = .ok (.invokevirtual 218, 3) := by decide +kernel
theorem dX9_follows_84 : decode cX9_follows 84 = .ok (.iinc 5 1, 3) := by decide +kernel
theorem dX9_follows_87 : decode cX9_follows 87 = .ok (.goto (-37), 3) := by decide +kernel
theorem dX9_follows_90 : decode cX9_follows 90 = .ok (.aload 4, 2) := by decide +kernel
theorem dX9_follows_92 : decode cX9_follows 92 = .ok (.getfield 110, 3) := by decide +kernel
theorem dX9_follows_95 : decode cX9_follows 95 = .ok (.iload_n 1, 1) := by decide +kernel
theorem dX9_follows_96 : decode cX9_follows 96 = .ok (.aaload, 1) := by decide +kernel
theorem dX9_follows_97 : decode cX9_follows 97 = .ok (.getfield 125, 3) := by decide +kernel
theorem dX9_follows_100 : decode cX9_follows 100 = .ok (.aload_n 0, 1) := by decide +kernel
theorem dX9_follows_101 : decode cX9_follows 101 = .ok (.getfield 19, 3) := by decide +kernel
theorem dX9_follows_104 : decode cX9_follows 104 = .ok (.getfield 110, 3) := by decide +kernel
theorem dX9_follows_107 : decode cX9_follows 107 = .ok (.iload_n 1, 1) := by decide +kernel
theorem dX9_follows_108 : decode cX9_follows 108 = .ok (.aaload, 1) := by decide +kernel
theorem dX9_follows_109 : decode cX9_follows 109 = .ok (.getfield 125, 3) := by decide +kernel
theorem dX9_follows_112 : decode cX9_follows 112 = .ok (.isub, 1) := by decide +kernel
theorem dX9_follows_113 : decode cX9_follows 113 = .ok (.ireturn, 1) := by decide +kernel
theorem dX9_plan_0 : decode cX9_plan 0 = .ok (.aload_n 0, 1) := by decide +kernel
theorem dX9_plan_1 : decode cX9_plan 1 = .ok (.iload_n 1, 1) := by decide +kernel
theorem dX9_plan_2 : decode cX9_plan 2 = .ok (.i2l, 1) := by decide +kernel
theorem dX9_plan_3 : decode cX9_plan 3 = .ok (.invokevirtual 100, 3) := by decide +kernel
theorem dX9_plan_6 : decode cX9_plan 6 = .ok (.ifCond .eq 22, 3) := by decide +kernel
theorem dX9_plan_9 : decode cX9_plan 9 = .ok (.iload_n 2, 1) := by decide +kernel
theorem dX9_plan_10 : decode cX9_plan 10 = .ok (.iconst 1, 1) := by decide +kernel
theorem dX9_plan_11 : decode cX9_plan 11 = .ok (.if_icmp .lt 17, 3) := by decide +kernel
theorem dX9_plan_14 : decode cX9_plan 14 = .ok (.iload_n 2, 1) := by decide +kernel
theorem dX9_plan_15 : decode cX9_plan 15 = .ok (.iconst 3, 1) := by decide +kernel
theorem dX9_plan_16 : decode cX9_plan 16 = .ok (.if_icmp .gt 12, 3) := by decide +kernel
theorem dX9_plan_19 : decode cX9_plan 19 = .ok (.iload_n 3, 1) := by decide +kernel
theorem dX9_plan_20 : decode cX9_plan 20 = .ok (.ifCond .lt 8, 3) := by decide +kernel
theorem dX9_plan_23 : decode cX9_plan 23 = .ok (.iload_n 3, 1) := by decide +kernel
theorem dX9_plan_24 : decode cX9_plan 24 = .ok (.iload_n 2, 1) := by decide +kernel
theorem dX9_plan_25 : decode cX9_plan 25 = .ok (.if_icmp .le 6, 3) := by decide +kernel
theorem dX9_plan_28 : decode cX9_plan 28 = .ok (.ldc 223, 2) := by decide +kernel
theorem dX9_plan_30 : decode cX9_plan 30 = .ok (.ireturn, 1) := by decide +kernel
theorem dX9_plan_31 : decode cX9_plan 31 = .ok (.iconst 1, 1) := by decide +kernel
theorem dX9_plan_32 : decode cX9_plan 32 = .ok (.istore 4, 2) := by decide +kernel
theorem dX9_plan_34 : decode cX9_plan 34 = .ok (.iconst 0, 1) := by decide +kernel
theorem dX9_plan_35 : decode cX9_plan 35 = .ok (.istore 5, 2) := by decide +kernel
theorem dX9_plan_37 : decode cX9_plan 37 = .ok (.iload 5, 2) := by decide +kernel
theorem dX9_plan_39 : decode cX9_plan 39 = .ok (.iload_n 2, 1) := by decide +kernel
theorem dX9_plan_40 : decode cX9_plan 40 = .ok (.if_icmp .ge 16, 3) := by decide +kernel
theorem dX9_plan_43 : decode cX9_plan 43 = .ok (.iload 4, 2) := by decide +kernel
theorem dX9_plan_45 : decode cX9_plan 45 = .ok (.bipush 6, 2) := by decide +kernel
theorem dX9_plan_47 : decode cX9_plan 47 = .ok (.imul, 1) := by decide +kernel
theorem dX9_plan_48 : decode cX9_plan 48 = .ok (.istore 4, 2) := by decide +kernel
theorem dX9_plan_50 : decode cX9_plan 50 = .ok (.iinc 5 1, 3) := by decide +kernel
theorem dX9_plan_53 : decode cX9_plan 53 = .ok (.goto (-16), 3) := by decide +kernel
theorem dX9_plan_56 : decode cX9_plan 56 = .ok (.aload_n 0, 1) := by decide +kernel
theorem dX9_plan_57 : decode cX9_plan 57 = .ok (.getfield 65, 3) := by decide +kernel
theorem dX9_plan_60 : decode cX9_plan 60 = .ok (.iconst 0, 1) := by decide +kernel
theorem dX9_plan_61 : decode cX9_plan 61 = .ok (.ldc 223, 2) := by decide +kernel
theorem dX9_plan_63 : decode cX9_plan 63 = .ok (.iastore, 1) := by decide +kernel
theorem dX9_plan_64 : decode cX9_plan 64 = .ok (.iconst 0, 1) := by decide +kernel
theorem dX9_plan_65 : decode cX9_plan 65 = .ok (.istore 5, 2) := by decide +kernel
theorem dX9_plan_67 : decode cX9_plan 67 = .ok (.iload 5, 2) := by decide +kernel
theorem dX9_plan_69 : decode cX9_plan 69 = .ok (.iload 4, 2) := by decide +kernel
theorem dX9_plan_71 : decode cX9_plan 71 = .ok (.if_icmp .ge 47, 3) := by decide +kernel
theorem dX9_plan_74 : decode cX9_plan 74 = .ok (.aload_n 0, 1) := by decide +kernel
theorem dX9_plan_75 : decode cX9_plan 75 = .ok (.iload_n 1, 1) := by decide +kernel
theorem dX9_plan_76 : decode cX9_plan 76 = .ok (.iload_n 2, 1) := by decide +kernel
theorem dX9_plan_77 : decode cX9_plan 77 = .ok (.iload 5, 2) := by decide +kernel
theorem dX9_plan_79 : decode cX9_plan 79 = .ok (.iload 4, 2) := by decide +kernel
theorem dX9_plan_81 : decode cX9_plan 81 = .ok (.invokevirtual 367, 3) := by decide +kernel
theorem dX9_plan_84 : decode cX9_plan 84 = .ok (.istore 6, 2) := by decide +kernel
theorem dX9_plan_86 : decode cX9_plan 86 = .ok (.iload 6, 2) := by decide +kernel
theorem dX9_plan_88 : decode cX9_plan 88 = .ok (.aload_n 0, 1) := by decide +kernel
theorem dX9_plan_89 : decode cX9_plan 89 = .ok (.getfield 65, 3) := by decide +kernel
theorem dX9_plan_92 : decode cX9_plan 92 = .ok (.iconst 0, 1) := by decide +kernel
theorem dX9_plan_93 : decode cX9_plan 93 = .ok (.iaload, 1) := by decide +kernel
theorem dX9_plan_94 : decode cX9_plan 94 = .ok (.if_icmp .le 18, 3) := by decide +kernel
theorem dX9_plan_97 : decode cX9_plan 97 = .ok (.aload_n 0, 1) := by decide +kernel
theorem dX9_plan_98 : decode cX9_plan 98 = .ok (.getfield 65, 3) := by decide +kernel
theorem dX9_plan_101 : decode cX9_plan 101 = .ok (.iconst 0, 1) := by decide +kernel
theorem dX9_plan_102 : decode cX9_plan 102 = .ok (.iload 6, 2) := by decide +kernel
theorem dX9_plan_104 : decode cX9_plan 104 = .ok (.iastore, 1) := by decide +kernel
theorem dX9_plan_105 : decode cX9_plan 105 = .ok (.aload_n 0, 1) := by decide +kernel
theorem dX9_plan_106 : decode cX9_plan 106 = .ok (.iload_n 2, 1) := by decide +kernel
theorem dX9_plan_107 : decode cX9_plan 107 = .ok (.iload 5, 2) := by decide +kernel
theorem dX9_plan_109 : decode cX9_plan 109 = .ok (.invokevirtual 371, 3) := by decide +kernel
theorem dX9_plan_112 : decode cX9_plan 112 = .ok (.iinc 5 1, 3) := by decide +kernel
theorem dX9_plan_115 : decode cX9_plan 115 = .ok (.goto (-48), 3) := by decide +kernel
theorem dX9_plan_118 : decode cX9_plan 118 = .ok (.aload_n 0, 1) := by decide +kernel
theorem dX9_plan_119 : decode cX9_plan 119 = .ok (.getfield 65, 3) := by decide +kernel
theorem dX9_plan_122 : decode cX9_plan 122 = .ok (.iload_n 3, 1) := by decide +kernel
theorem dX9_plan_123 : decode cX9_plan 123 = .ok (.iaload, 1) := by decide +kernel
theorem dX9_plan_124 : decode cX9_plan 124 = .ok (.ireturn, 1) := by decide +kernel
theorem dX9_goodByRow_0 : decode cX9_goodByRow 0 = .ok (.iload 4, 2) := by decide +kernel
theorem dX9_goodByRow_2 : decode cX9_goodByRow 2 = .ok (.istore 5, 2) := by decide +kernel
theorem dX9_goodByRow_4 : decode cX9_goodByRow 4 = .ok (.aload_n 0, 1) := by decide +kernel
theorem dX9_goodByRow_5 : decode cX9_goodByRow 5 = .ok (.getfield 19, 3) := by decide +kernel
theorem dX9_goodByRow_8 : decode cX9_goodByRow 8 = .ok (.astore 6, 2) := by decide +kernel
theorem dX9_goodByRow_10 : decode cX9_goodByRow 10 = .ok (.iconst 0, 1) := by decide +kernel
theorem dX9_goodByRow_11 : decode cX9_goodByRow 11 = .ok (.istore 7, 2) := by decide +kernel
theorem dX9_goodByRow_13 : decode cX9_goodByRow 13 = .ok (.iload 7, 2) := by decide +kernel
theorem dX9_goodByRow_15 : decode cX9_goodByRow 15 = .ok (.iload_n 2, 1) := by decide +kernel
theorem dX9_goodByRow_16 : decode cX9_goodByRow 16 = .ok (.if_icmp .ge 71, 3) := by decide +kernel
theorem dX9_goodByRow_19 : decode cX9_goodByRow 19 = .ok (.iconst 1, 1) := by decide +kernel
theorem dX9_goodByRow_20 : decode cX9_goodByRow 20 = .ok (.iload 5, 2) := by decide +kernel
theorem dX9_goodByRow_22 : decode cX9_goodByRow 22 = .ok (.bipush 6, 2) := by decide +kernel
theorem dX9_goodByRow_24 : decode cX9_goodByRow 24 = .ok (.idiv, 1) := by decide +kernel
theorem dX9_goodByRow_25 : decode cX9_goodByRow 25 = .ok (.invokestatic 269, 3) := by decide +kernel
theorem dX9_goodByRow_28 : decode cX9_goodByRow 28 = .ok (.istore 5, 2) := by decide +kernel
theorem dX9_goodByRow_30 : decode cX9_goodByRow 30 = .ok (.aload_n 0, 1) := by decide +kernel
theorem dX9_goodByRow_31 : decode cX9_goodByRow 31 = .ok (.getfield 23, 3) := by decide +kernel
theorem dX9_goodByRow_34 : decode cX9_goodByRow 34 = .ok (.iload 7, 2) := by decide +kernel
theorem dX9_goodByRow_36 : decode cX9_goodByRow 36 = .ok (.aaload, 1) := by decide +kernel
theorem dX9_goodByRow_37 : decode cX9_goodByRow 37 = .ok (.astore 8, 2) := by decide +kernel
theorem dX9_goodByRow_39 : decode cX9_goodByRow 39 = .ok (.iload_n 3, 1) := by decide +kernel
theorem dX9_goodByRow_40 : decode cX9_goodByRow 40 = .ok (.iload 5, 2) := by decide +kernel
theorem dX9_goodByRow_42 : decode cX9_goodByRow 42 = .ok (.irem, 1) := by decide +kernel
