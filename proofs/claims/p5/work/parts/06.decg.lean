theorem dX12_draws_0 : decode cX12_draws 0 = .ok (.aload_n 0, 1) := by decide +kernel
theorem dX12_draws_1 : decode cX12_draws 1 = .ok (.iload_n 2, 1) := by decide +kernel
theorem dX12_draws_2 : decode cX12_draws 2 = .ok (.putfield 369, 3) := by decide +kernel
theorem dX12_draws_5 : decode cX12_draws 5 = .ok (.iconst 0, 1) := by decide +kernel
theorem dX12_draws_6 : decode cX12_draws 6 = .ok (.istore_n 3, 1) := by decide +kernel
theorem dX12_draws_7 : decode cX12_draws 7 = .ok (.iconst 0, 1) := by decide +kernel
theorem dX12_draws_8 : decode cX12_draws 8 = .ok (.istore 4, 2) := by decide +kernel
theorem dX12_draws_10 : decode cX12_draws 10 = .ok (.iload 4, 2) := by decide +kernel
theorem dX12_draws_12 : decode cX12_draws 12 = .ok (.iload_n 1, 1) := by decide +kernel
theorem dX12_draws_13 : decode cX12_draws 13 = .ok (.if_icmp .ge 113, 3) := by decide +kernel
theorem dX12_draws_16 : decode cX12_draws 16 = .ok (.aload_n 0, 1) := by decide +kernel
theorem dX12_draws_17 : decode cX12_draws 17 = .ok (.invokevirtual 281, 3) := by decide +kernel
theorem dX12_draws_20 : decode cX12_draws 20 = .ok (.istore 5, 2) := by decide +kernel
theorem dX12_draws_22 : decode cX12_draws 22 = .ok (.iconst 0, 1) := by decide +kernel
theorem dX12_draws_23 : decode cX12_draws 23 = .ok (.istore 6, 2) := by decide +kernel
theorem dX12_draws_25 : decode cX12_draws 25 = .ok (.iconst 0, 1) := by decide +kernel
theorem dX12_draws_26 : decode cX12_draws 26 = .ok (.istore 7, 2) := by decide +kernel
theorem dX12_draws_28 : decode cX12_draws 28 = .ok (.iload 7, 2) := by decide +kernel
theorem dX12_draws_30 : decode cX12_draws 30 = .ok (.aload_n 0, 1) := by decide +kernel
theorem dX12_draws_31 : decode cX12_draws 31 = .ok (.getfield 33, 3) := by decide +kernel
theorem dX12_draws_34 : decode cX12_draws 34 = .ok (.iconst 1, 1) := by decide +kernel
theorem dX12_draws_35 : decode cX12_draws 35 = .ok (.iaload, 1) := by decide +kernel
theorem dX12_draws_36 : decode cX12_draws 36 = .ok (.if_icmp .ge 36, 3) := by decide +kernel
theorem dX12_draws_39 : decode cX12_draws 39 = .ok (.iload 5, 2) := by decide +kernel
theorem dX12_draws_41 : decode cX12_draws 41 = .ok (.iload 7, 2) := by decide +kernel
theorem dX12_draws_43 : decode cX12_draws 43 = .ok (.invokestatic 221, 3) := by decide +kernel
theorem dX12_draws_46 : decode cX12_draws 46 = .ok (.ifCond .eq 20, 3) := by decide +kernel
theorem dX12_draws_49 : decode cX12_draws 49 = .ok (.aload_n 0, 1) := by decide +kernel
theorem dX12_draws_50 : decode cX12_draws 50 = .ok (.iconst 2, 1) := by decide +kernel
theorem dX12_draws_51 : decode cX12_draws 51 = .ok (.invokevirtual 373, 3) := by decide +kernel
theorem dX12_draws_54 : decode cX12_draws 54 = .ok (.ifCond .ne 12, 3) := by decide +kernel
theorem dX12_draws_57 : decode cX12_draws 57 = .ok (.iload 6, 2) := by decide +kernel
theorem dX12_draws_59 : decode cX12_draws 59 = .ok (.iconst 1, 1) := by decide +kernel
theorem dX12_draws_60 : decode cX12_draws 60 = .ok (.iload 7, 2) := by decide +kernel
theorem dX12_draws_62 : decode cX12_draws 62 = .ok (.ishl, 1) := by decide +kernel
theorem dX12_draws_63 : decode cX12_draws 63 = .ok (.ior, 1) := by decide +kernel
theorem dX12_draws_64 : decode cX12_draws 64 = .ok (.istore 6, 2) := by decide +kernel
theorem dX12_draws_66 : decode cX12_draws 66 = .ok (.iinc 7 1, 3) := by decide +kernel
theorem dX12_draws_69 : decode cX12_draws 69 = .ok (.goto (-41), 3) := by decide +kernel
theorem dX12_draws_72 : decode cX12_draws 72 = .ok (.aload_n 0, 1) := by decide +kernel
theorem dX12_draws_73 : decode cX12_draws 73 = .ok (.iload 6, 2) := by decide +kernel
theorem dX12_draws_75 : decode cX12_draws 75 = .ok (.invokevirtual 299, 3) := by decide +kernel
theorem dX12_draws_78 : decode cX12_draws 78 = .ok (.ifCond .ne 15, 3) := by decide +kernel
theorem dX12_draws_81 : decode cX12_draws 81 = .ok (.aload_n 0, 1) := by decide +kernel
theorem dX12_draws_82 : decode cX12_draws 82 = .ok (.iload 6, 2) := by decide +kernel
theorem dX12_draws_84 : decode cX12_draws 84 = .ok (.invokevirtual 305, 3) := by decide +kernel
theorem dX12_draws_87 : decode cX12_draws 87 = .ok (.iinc 3 1, 3) := by decide +kernel
theorem dX12_draws_90 : decode cX12_draws 90 = .ok (.goto 30, 3) := by decide +kernel
theorem dX12_draws_93 : decode cX12_draws 93 = .ok (.aload_n 0, 1) := by decide +kernel
theorem dX12_draws_94 : decode cX12_draws 94 = .ok (.aload_n 0, 1) := by decide +kernel
theorem dX12_draws_95 : decode cX12_draws 95 = .ok (.getfield 33, 3) := by decide +kernel
theorem dX12_draws_98 : decode cX12_draws 98 = .ok (.iconst 1, 1) := by decide +kernel
theorem dX12_draws_99 : decode cX12_draws 99 = .ok (.iaload, 1) := by decide +kernel
theorem dX12_draws_100 : decode cX12_draws 100 = .ok (.invokevirtual 373, 3) := by decide +kernel
theorem dX12_draws_103 : decode cX12_draws 103 = .ok (.istore 7, 2) := by decide +kernel
theorem dX12_draws_105 : decode cX12_draws 105 = .ok (.aload_n 0, 1) := by decide +kernel
theorem dX12_draws_106 : decode cX12_draws 106 = .ok (.iload 7, 2) := by decide +kernel
theorem dX12_draws_108 : decode cX12_draws 108 = .ok (.invokevirtual 311, 3) := by decide +kernel
theorem dX12_draws_111 : decode cX12_draws 111 = .ok (.ifCond .ne 9, 3) := by decide +kernel
theorem dX12_draws_114 : decode cX12_draws 114 = .ok (.aload_n 0, 1) := by decide +kernel
theorem dX12_draws_115 : decode cX12_draws 115 = .ok (.iload 7, 2) := by decide +kernel
theorem dX12_draws_117 : decode cX12_draws 117 = .ok (.invokevirtual 314, 3) := by decide +kernel
theorem dX12_draws_120 : decode cX12_draws 120 = .ok (.iinc 4 1, 3) := by decide +kernel
theorem dX12_draws_123 : decode cX12_draws 123 = .ok (.goto (-113), 3) := by decide +kernel
theorem dX12_draws_126 : decode cX12_draws 126 = .ok (.iload_n 3, 1) := by decide +kernel
theorem dX12_draws_127 : decode cX12_draws 127 = .ok (.ireturn, 1) := by decide +kernel
theorem dX12_drawn_0 : decode cX12_drawn 0 = .ok (.aload_n 0, 1) := by decide +kernel
theorem dX12_drawn_1 : decode cX12_drawn 1 = .ok (.iconst 0, 1) := by decide +kernel
theorem dX12_drawn_2 : decode cX12_drawn 2 = .ok (.putfield 1, 3) := by decide +kernel
theorem dX12_drawn_5 : decode cX12_drawn 5 = .ok (.iload_n 1, 1) := by decide +kernel
theorem dX12_drawn_6 : decode cX12_drawn 6 = .ok (.iconst 1, 1) := by decide +kernel
theorem dX12_drawn_7 : decode cX12_drawn 7 = .ok (.bipush 40, 2) := by decide +kernel
theorem dX12_drawn_9 : decode cX12_drawn 9 = .ok (.invokestatic 189, 3) := by decide +kernel
theorem dX12_drawn_12 : decode cX12_drawn 12 = .ok (.ifCond .eq 12, 3) := by decide +kernel
theorem dX12_drawn_15 : decode cX12_drawn 15 = .ok (.aload_n 0, 1) := by decide +kernel
theorem dX12_drawn_16 : decode cX12_drawn 16 = .ok (.getfield 33, 3) := by decide +kernel
theorem dX12_drawn_19 : decode cX12_drawn 19 = .ok (.iconst 1, 1) := by decide +kernel
theorem dX12_drawn_20 : decode cX12_drawn 20 = .ok (.iaload, 1) := by decide +kernel
theorem dX12_drawn_21 : decode cX12_drawn 21 = .ok (.ifCond .ne 5, 3) := by decide +kernel
theorem dX12_drawn_24 : decode cX12_drawn 24 = .ok (.iconst (-1), 1) := by decide +kernel
theorem dX12_drawn_25 : decode cX12_drawn 25 = .ok (.ireturn, 1) := by decide +kernel
theorem dX12_drawn_26 : decode cX12_drawn 26 = .ok (.aload_n 0, 1) := by decide +kernel
theorem dX12_drawn_27 : decode cX12_drawn 27 = .ok (.invokevirtual 302, 3) := by decide +kernel
theorem dX12_drawn_30 : decode cX12_drawn 30 = .ok (.aload_n 0, 1) := by decide +kernel
theorem dX12_drawn_31 : decode cX12_drawn 31 = .ok (.iload_n 1, 1) := by decide +kernel
theorem dX12_drawn_32 : decode cX12_drawn 32 = .ok (.iload_n 2, 1) := by decide +kernel
theorem dX12_drawn_33 : decode cX12_drawn 33 = .ok (.invokevirtual 376, 3) := by decide +kernel
theorem dX12_drawn_36 : decode cX12_drawn 36 = .ok (.ireturn, 1) := by decide +kernel
theorem dX12_odds_0 : decode cX12_odds 0 = .ok (.aload_n 0, 1) := by decide +kernel
theorem dX12_odds_1 : decode cX12_odds 1 = .ok (.iconst 0, 1) := by decide +kernel
theorem dX12_odds_2 : decode cX12_odds 2 = .ok (.putfield 1, 3) := by decide +kernel
theorem dX12_odds_5 : decode cX12_odds 5 = .ok (.aload_n 0, 1) := by decide +kernel
theorem dX12_odds_6 : decode cX12_odds 6 = .ok (.iload_n 1, 1) := by decide +kernel
theorem dX12_odds_7 : decode cX12_odds 7 = .ok (.invokevirtual 252, 3) := by decide +kernel
theorem dX12_odds_10 : decode cX12_odds 10 = .ok (.ifCond .eq 13, 3) := by decide +kernel
theorem dX12_odds_13 : decode cX12_odds 13 = .ok (.iload_n 2, 1) := by decide +kernel
theorem dX12_odds_14 : decode cX12_odds 14 = .ok (.iconst 1, 1) := by decide +kernel
theorem dX12_odds_15 : decode cX12_odds 15 = .ok (.bipush 40, 2) := by decide +kernel
theorem dX12_odds_17 : decode cX12_odds 17 = .ok (.invokestatic 189, 3) := by decide +kernel
theorem dX12_odds_20 : decode cX12_odds 20 = .ok (.ifCond .ne 5, 3) := by decide +kernel
theorem dX12_odds_23 : decode cX12_odds 23 = .ok (.iconst (-1), 1) := by decide +kernel
theorem dX12_odds_24 : decode cX12_odds 24 = .ok (.ireturn, 1) := by decide +kernel
theorem dX12_odds_25 : decode cX12_odds 25 = .ok (.aload_n 0, 1) := by decide +kernel
theorem dX12_odds_26 : decode cX12_odds 26 = .ok (.invokevirtual 379, 3) := by decide +kernel
theorem dX12_odds_29 : decode cX12_odds 29 = .ok (.iconst 0, 1) := by decide +kernel
theorem dX12_odds_30 : decode cX12_odds 30 = .ok (.istore 4, 2) := by decide +kernel
theorem dX12_odds_32 : decode cX12_odds 32 = .ok (.iconst 0, 1) := by decide +kernel
theorem dX12_odds_33 : decode cX12_odds 33 = .ok (.istore 5, 2) := by decide +kernel
theorem dX12_odds_35 : decode cX12_odds 35 = .ok (.iload 5, 2) := by decide +kernel
theorem dX12_odds_37 : decode cX12_odds 37 = .ok (.iload_n 2, 1) := by decide +kernel
theorem dX12_odds_38 : decode cX12_odds 38 = .ok (.if_icmp .ge 34, 3) := by decide +kernel
theorem dX12_odds_41 : decode cX12_odds 41 = .ok (.aload_n 0, 1) := by decide +kernel
theorem dX12_odds_42 : decode cX12_odds 42 = .ok (.bipush 20, 2) := by decide +kernel
theorem dX12_odds_44 : decode cX12_odds 44 = .ok (.iload_n 3, 1) := by decide +kernel
theorem dX12_odds_45 : decode cX12_odds 45 = .ok (.iload 5, 2) := by decide +kernel
theorem dX12_odds_47 : decode cX12_odds 47 = .ok (.iadd, 1) := by decide +kernel
theorem dX12_odds_48 : decode cX12_odds 48 = .ok (.invokevirtual 376, 3) := by decide +kernel
theorem dX12_odds_51 : decode cX12_odds 51 = .ok (.pop, 1) := by decide +kernel
theorem dX12_odds_52 : decode cX12_odds 52 = .ok (.iload 4, 2) := by decide +kernel
theorem dX12_odds_54 : decode cX12_odds 54 = .ok (.aload_n 0, 1) := by decide +kernel
theorem dX12_odds_55 : decode cX12_odds 55 = .ok (.iload_n 1, 1) := by decide +kernel
theorem dX12_odds_56 : decode cX12_odds 56 = .ok (.invokevirtual 259, 3) := by decide +kernel
theorem dX12_odds_59 : decode cX12_odds 59 = .ok (.iadd, 1) := by decide +kernel
theorem dX12_odds_60 : decode cX12_odds 60 = .ok (.istore 4, 2) := by decide +kernel
theorem dX12_odds_62 : decode cX12_odds 62 = .ok (.aload_n 0, 1) := by decide +kernel
theorem dX12_odds_63 : decode cX12_odds 63 = .ok (.invokevirtual 382, 3) := by decide +kernel
theorem dX12_odds_66 : decode cX12_odds 66 = .ok (.iinc 5 1, 3) := by decide +kernel
theorem dX12_odds_69 : decode cX12_odds 69 = .ok (.goto (-34), 3) := by decide +kernel
theorem dX12_odds_72 : decode cX12_odds 72 = .ok (.iload 4, 2) := by decide +kernel
theorem dX12_odds_74 : decode cX12_odds 74 = .ok (.ireturn, 1) := by decide +kernel
theorem dX12_logLine_0 : decode cX12_logLine 0 = .ok (.iconst 4, 1) := by decide +kernel
theorem dX12_logLine_1 : decode cX12_logLine 1 = .ok (.aload_n 0, 1) := by decide +kernel
theorem dX12_logLine_2 : decode cX12_logLine 2 = .ok (.getfield 385, 3) := by decide +kernel
theorem dX12_logLine_5 : decode cX12_logLine 5 = .ok (.imul, 1) := by decide +kernel
theorem dX12_logLine_6 : decode cX12_logLine 6 = .ok (.istore_n 1, 1) := by decide +kernel
theorem dX12_logLine_7 : decode cX12_logLine 7 = .ok (.aload_n 0, 1) := by decide +kernel
theorem dX12_logLine_8 : decode cX12_logLine 8 = .ok (.ldc2_w 115, 3) := by decide +kernel
theorem dX12_logLine_11 : decode cX12_logLine 11 = .ok (.invokevirtual 208, 3) := by decide +kernel
theorem dX12_logLine_14 : decode cX12_logLine 14 = .ok (.ifCond .eq 7, 3) := by decide +kernel
theorem dX12_logLine_17 : decode cX12_logLine 17 = .ok (.iconst 0, 1) := by decide +kernel
theorem dX12_logLine_18 : decode cX12_logLine 18 = .ok (.goto 32, 3) := by decide +kernel
theorem dX12_logLine_21 : decode cX12_logLine 21 = .ok (.aload_n 0, 1) := by decide +kernel
theorem dX12_logLine_22 : decode cX12_logLine 22 = .ok (.ldc2_w 117, 3) := by decide +kernel
theorem dX12_logLine_25 : decode cX12_logLine 25 = .ok (.invokevirtual 208, 3) := by decide +kernel
theorem dX12_logLine_28 : decode cX12_logLine 28 = .ok (.ifCond .eq 7, 3) := by decide +kernel
theorem dX12_logLine_31 : decode cX12_logLine 31 = .ok (.iconst 1, 1) := by decide +kernel
theorem dX12_logLine_32 : decode cX12_logLine 32 = .ok (.goto 18, 3) := by decide +kernel
theorem dX12_logLine_35 : decode cX12_logLine 35 = .ok (.aload_n 0, 1) := by decide +kernel
theorem dX12_logLine_36 : decode cX12_logLine 36 = .ok (.ldc2_w 119, 3) := by decide +kernel
theorem dX12_logLine_39 : decode cX12_logLine 39 = .ok (.invokevirtual 208, 3) := by decide +kernel
theorem dX12_logLine_42 : decode cX12_logLine 42 = .ok (.ifCond .eq 7, 3) := by decide +kernel
theorem dX12_logLine_45 : decode cX12_logLine 45 = .ok (.iconst 2, 1) := by decide +kernel
theorem dX12_logLine_46 : decode cX12_logLine 46 = .ok (.goto 4, 3) := by decide +kernel
theorem dX12_logLine_49 : decode cX12_logLine 49 = .ok (.iconst (-1), 1) := by decide +kernel
theorem dX12_logLine_50 : decode cX12_logLine 50 = .ok (.istore_n 2, 1) := by decide +kernel
theorem dX12_logLine_51 : decode cX12_logLine 51 = .ok (.iload_n 2, 1) := by decide +kernel
theorem dX12_logLine_52 : decode cX12_logLine 52 = .ok (.ifCond .lt 90, 3) := by decide +kernel
theorem dX12_logLine_55 : decode cX12_logLine 55 = .ok (.aload_n 0, 1) := by decide +kernel
theorem dX12_logLine_56 : decode cX12_logLine 56 = .ok (.getfield 385, 3) := by decide +kernel
theorem dX12_logLine_59 : decode cX12_logLine 59 = .ok (.bipush 40, 2) := by decide +kernel
theorem dX12_logLine_61 : decode cX12_logLine 61 = .ok (.if_icmp .ne 9, 3) := by decide +kernel
theorem dX12_logLine_64 : decode cX12_logLine 64 = .ok (.aload_n 0, 1) := by decide +kernel
theorem dX12_logLine_65 : decode cX12_logLine 65 = .ok (.iconst 4, 1) := by decide +kernel
theorem dX12_logLine_66 : decode cX12_logLine 66 = .ok (.invokevirtual 183, 3) := by decide +kernel
theorem dX12_logLine_69 : decode cX12_logLine 69 = .ok (.ireturn, 1) := by decide +kernel
theorem dX12_logLine_70 : decode cX12_logLine 70 = .ok (.aload_n 0, 1) := by decide +kernel
theorem dX12_logLine_71 : decode cX12_logLine 71 = .ok (.getfield 40, 3) := by decide +kernel
theorem dX12_logLine_74 : decode cX12_logLine 74 = .ok (.iload_n 1, 1) := by decide +kernel
theorem dX12_logLine_75 : decode cX12_logLine 75 = .ok (.iload_n 2, 1) := by decide +kernel
theorem dX12_logLine_76 : decode cX12_logLine 76 = .ok (.iastore, 1) := by decide +kernel
theorem dX12_logLine_77 : decode cX12_logLine 77 = .ok (.aload_n 0, 1) := by decide +kernel
theorem dX12_logLine_78 : decode cX12_logLine 78 = .ok (.invokevirtual 186, 3) := by decide +kernel
theorem dX12_logLine_81 : decode cX12_logLine 81 = .ok (.iload_n 2, 1) := by decide +kernel
theorem dX12_logLine_82 : decode cX12_logLine 82 = .ok (.ifCond .ne 11, 3) := by decide +kernel
theorem dX12_logLine_85 : decode cX12_logLine 85 = .ok (.aload_n 0, 1) := by decide +kernel
theorem dX12_logLine_86 : decode cX12_logLine 86 = .ok (.iload_n 1, 1) := by decide +kernel
theorem dX12_logLine_87 : decode cX12_logLine 87 = .ok (.iconst 1, 1) := by decide +kernel
theorem dX12_logLine_88 : decode cX12_logLine 88 = .ok (.iadd, 1) := by decide +kernel
theorem dX12_logLine_89 : decode cX12_logLine 89 = .ok (.invokevirtual 388, 3) := by decide +kernel
theorem dX12_logLine_92 : decode cX12_logLine 92 = .ok (.ireturn, 1) := by decide +kernel
theorem dX12_logLine_93 : decode cX12_logLine 93 = .ok (.aload_n 0, 1) := by decide +kernel
theorem dX12_logLine_94 : decode cX12_logLine 94 = .ok (.iload_n 2, 1) := by decide +kernel
theorem dX12_logLine_95 : decode cX12_logLine 95 = .ok (.iconst 1, 1) := by decide +kernel
theorem dX12_logLine_96 : decode cX12_logLine 96 = .ok (.if_icmp .ne 7, 3) := by decide +kernel
theorem dX12_logLine_99 : decode cX12_logLine 99 = .ok (.iconst 0, 1) := by decide +kernel
theorem dX12_logLine_100 : decode cX12_logLine 100 = .ok (.goto 5, 3) := by decide +kernel
theorem dX12_logLine_103 : decode cX12_logLine 103 = .ok (.bipush 9, 2) := by decide +kernel
theorem dX12_logLine_105 : decode cX12_logLine 105 = .ok (.aload_n 0, 1) := by decide +kernel
theorem dX12_logLine_106 : decode cX12_logLine 106 = .ok (.getfield 33, 3) := by decide +kernel
theorem dX12_logLine_109 : decode cX12_logLine 109 = .ok (.iload_n 2, 1) := by decide +kernel
theorem dX12_logLine_110 : decode cX12_logLine 110 = .ok (.iconst 1, 1) := by decide +kernel
theorem dX12_logLine_111 : decode cX12_logLine 111 = .ok (.if_icmp .ne 7, 3) := by decide +kernel
theorem dX12_logLine_114 : decode cX12_logLine 114 = .ok (.iconst 0, 1) := by decide +kernel
theorem dX12_logLine_115 : decode cX12_logLine 115 = .ok (.goto 4, 3) := by decide +kernel
theorem dX12_logLine_118 : decode cX12_logLine 118 = .ok (.iconst 1, 1) := by decide +kernel
theorem dX12_logLine_119 : decode cX12_logLine 119 = .ok (.iaload, 1) := by decide +kernel
theorem dX12_logLine_120 : decode cX12_logLine 120 = .ok (.invokevirtual 391, 3) := by decide +kernel
theorem dX12_logLine_123 : decode cX12_logLine 123 = .ok (.ifCond .ne 5, 3) := by decide +kernel
theorem dX12_logLine_126 : decode cX12_logLine 126 = .ok (.iconst 0, 1) := by decide +kernel
theorem dX12_logLine_127 : decode cX12_logLine 127 = .ok (.ireturn, 1) := by decide +kernel
theorem dX12_logLine_128 : decode cX12_logLine 128 = .ok (.aload_n 0, 1) := by decide +kernel
theorem dX12_logLine_129 : decode cX12_logLine 129 = .ok (.getfield 40, 3) := by decide +kernel
theorem dX12_logLine_132 : decode cX12_logLine 132 = .ok (.iload_n 1, 1) := by decide +kernel
theorem dX12_logLine_133 : decode cX12_logLine 133 = .ok (.iconst 1, 1) := by decide +kernel
theorem dX12_logLine_134 : decode cX12_logLine 134 = .ok (.iadd, 1) := by decide +kernel
theorem dX12_logLine_135 : decode cX12_logLine 135 = .ok (.aload_n 0, 1) := by decide +kernel
theorem dX12_logLine_136 : decode cX12_logLine 136 = .ok (.getfield 193, 3) := by decide +kernel
theorem dX12_logLine_139 : decode cX12_logLine 139 = .ok (.iastore, 1) := by decide +kernel
theorem dX12_logLine_140 : decode cX12_logLine 140 = .ok (.iconst 1, 1) := by decide +kernel
theorem dX12_logLine_141 : decode cX12_logLine 141 = .ok (.ireturn, 1) := by decide +kernel
theorem dX12_logLine_142 : decode cX12_logLine 142 = .ok (.aload_n 0, 1) := by decide +kernel
theorem dX12_logLine_143 : decode cX12_logLine 143 = .ok (.bipush 9, 2) := by decide +kernel
theorem dX12_logLine_145 : decode cX12_logLine 145 = .ok (.aload_n 0, 1) := by decide +kernel
theorem dX12_logLine_146 : decode cX12_logLine 146 = .ok (.getfield 33, 3) := by decide +kernel
theorem dX12_logLine_149 : decode cX12_logLine 149 = .ok (.iconst 1, 1) := by decide +kernel
theorem dX12_logLine_150 : decode cX12_logLine 150 = .ok (.iaload, 1) := by decide +kernel
theorem dX12_logLine_151 : decode cX12_logLine 151 = .ok (.invokevirtual 204, 3) := by decide +kernel
theorem dX12_logLine_154 : decode cX12_logLine 154 = .ok (.ifCond .ne 5, 3) := by decide +kernel
theorem dX12_logLine_157 : decode cX12_logLine 157 = .ok (.iconst 0, 1) := by decide +kernel
theorem dX12_logLine_158 : decode cX12_logLine 158 = .ok (.ireturn, 1) := by decide +kernel
theorem dX12_logLine_159 : decode cX12_logLine 159 = .ok (.aload_n 0, 1) := by decide +kernel
theorem dX12_logLine_160 : decode cX12_logLine 160 = .ok (.getfield 385, 3) := by decide +kernel
theorem dX12_logLine_163 : decode cX12_logLine 163 = .ok (.bipush 40, 2) := by decide +kernel
theorem dX12_logLine_165 : decode cX12_logLine 165 = .ok (.if_icmp .ne 9, 3) := by decide +kernel
theorem dX12_logLine_168 : decode cX12_logLine 168 = .ok (.aload_n 0, 1) := by decide +kernel
theorem dX12_logLine_169 : decode cX12_logLine 169 = .ok (.iconst 4, 1) := by decide +kernel
theorem dX12_logLine_170 : decode cX12_logLine 170 = .ok (.invokevirtual 183, 3) := by decide +kernel
theorem dX12_logLine_173 : decode cX12_logLine 173 = .ok (.ireturn, 1) := by decide +kernel
theorem dX12_logLine_174 : decode cX12_logLine 174 = .ok (.aload_n 0, 1) := by decide +kernel
theorem dX12_logLine_175 : decode cX12_logLine 175 = .ok (.getfield 40, 3) := by decide +kernel
theorem dX12_logLine_178 : decode cX12_logLine 178 = .ok (.iload_n 1, 1) := by decide +kernel
theorem dX12_logLine_179 : decode cX12_logLine 179 = .ok (.iconst 1, 1) := by decide +kernel
theorem dX12_logLine_180 : decode cX12_logLine 180 = .ok (.iadd, 1) := by decide +kernel
theorem dX12_logLine_181 : decode cX12_logLine 181 = .ok (.aload_n 0, 1) := by decide +kernel
theorem dX12_logLine_182 : decode cX12_logLine 182 = .ok (.getfield 193, 3) := by decide +kernel
theorem dX12_logLine_185 : decode cX12_logLine 185 = .ok (.iastore, 1) := by decide +kernel
theorem dX12_logLine_186 : decode cX12_logLine 186 = .ok (.aload_n 0, 1) := by decide +kernel
theorem dX12_logLine_187 : decode cX12_logLine 187 = .ok (.invokevirtual 186, 3) := by decide +kernel
theorem dX12_logLine_190 : decode cX12_logLine 190 = .ok (.aload_n 0, 1) := by decide +kernel
theorem dX12_logLine_191 : decode cX12_logLine 191 = .ok (.ldc2_w 121, 3) := by decide +kernel
theorem dX12_logLine_194 : decode cX12_logLine 194 = .ok (.invokevirtual 208, 3) := by decide +kernel
theorem dX12_logLine_197 : decode cX12_logLine 197 = .ok (.istore_n 3, 1) := by decide +kernel
theorem dX12_logLine_198 : decode cX12_logLine 198 = .ok (.iload_n 3, 1) := by decide +kernel
theorem dX12_logLine_199 : decode cX12_logLine 199 = .ok (.ifCond .ne 19, 3) := by decide +kernel
theorem dX12_logLine_202 : decode cX12_logLine 202 = .ok (.aload_n 0, 1) := by decide +kernel
theorem dX12_logLine_203 : decode cX12_logLine 203 = .ok (.ldc2_w 123, 3) := by decide +kernel
theorem dX12_logLine_206 : decode cX12_logLine 206 = .ok (.invokevirtual 208, 3) := by decide +kernel
theorem dX12_logLine_209 : decode cX12_logLine 209 = .ok (.ifCond .ne 9, 3) := by decide +kernel
theorem dX12_logLine_212 : decode cX12_logLine 212 = .ok (.aload_n 0, 1) := by decide +kernel
theorem dX12_logLine_213 : decode cX12_logLine 213 = .ok (.iconst 1, 1) := by decide +kernel
theorem dX12_logLine_214 : decode cX12_logLine 214 = .ok (.invokevirtual 183, 3) := by decide +kernel
theorem dX12_logLine_217 : decode cX12_logLine 217 = .ok (.ireturn, 1) := by decide +kernel
theorem dX12_logLine_218 : decode cX12_logLine 218 = .ok (.aload_n 0, 1) := by decide +kernel
theorem dX12_logLine_219 : decode cX12_logLine 219 = .ok (.getfield 40, 3) := by decide +kernel
theorem dX12_logLine_222 : decode cX12_logLine 222 = .ok (.iload_n 1, 1) := by decide +kernel
theorem dX12_logLine_223 : decode cX12_logLine 223 = .ok (.iload_n 3, 1) := by decide +kernel
theorem dX12_logLine_224 : decode cX12_logLine 224 = .ok (.ifCond .eq 7, 3) := by decide +kernel
theorem dX12_logLine_227 : decode cX12_logLine 227 = .ok (.iconst 3, 1) := by decide +kernel
theorem dX12_logLine_228 : decode cX12_logLine 228 = .ok (.goto 4, 3) := by decide +kernel
theorem dX12_logLine_231 : decode cX12_logLine 231 = .ok (.iconst 4, 1) := by decide +kernel
theorem dX12_logLine_232 : decode cX12_logLine 232 = .ok (.iastore, 1) := by decide +kernel
theorem dX12_logLine_233 : decode cX12_logLine 233 = .ok (.aload_n 0, 1) := by decide +kernel
theorem dX12_logLine_234 : decode cX12_logLine 234 = .ok (.invokevirtual 186, 3) := by decide +kernel
theorem dX12_logLine_237 : decode cX12_logLine 237 = .ok (.aload_n 0, 1) := by decide +kernel
theorem dX12_logLine_238 : decode cX12_logLine 238 = .ok (.iconst 0, 1) := by decide +kernel
theorem dX12_logLine_239 : decode cX12_logLine 239 = .ok (.aload_n 0, 1) := by decide +kernel
theorem dX12_logLine_240 : decode cX12_logLine 240 = .ok (.getfield 33, 3) := by decide +kernel
theorem dX12_logLine_243 : decode cX12_logLine 243 = .ok (.iconst 0, 1) := by decide +kernel
theorem dX12_logLine_244 : decode cX12_logLine 244 = .ok (.iaload, 1) := by decide +kernel
theorem dX12_logLine_245 : decode cX12_logLine 245 = .ok (.invokevirtual 391, 3) := by decide +kernel
theorem dX12_logLine_248 : decode cX12_logLine 248 = .ok (.ifCond .ne 5, 3) := by decide +kernel
theorem dX12_logLine_251 : decode cX12_logLine 251 = .ok (.iconst 0, 1) := by decide +kernel
theorem dX12_logLine_252 : decode cX12_logLine 252 = .ok (.ireturn, 1) := by decide +kernel
theorem dX12_logLine_253 : decode cX12_logLine 253 = .ok (.aload_n 0, 1) := by decide +kernel
theorem dX12_logLine_254 : decode cX12_logLine 254 = .ok (.getfield 40, 3) := by decide +kernel
theorem dX12_logLine_257 : decode cX12_logLine 257 = .ok (.iload_n 1, 1) := by decide +kernel
theorem dX12_logLine_258 : decode cX12_logLine 258 = .ok (.iconst 2, 1) := by decide +kernel
theorem dX12_logLine_259 : decode cX12_logLine 259 = .ok (.iadd, 1) := by decide +kernel
theorem dX12_logLine_260 : decode cX12_logLine 260 = .ok (.aload_n 0, 1) := by decide +kernel
theorem dX12_logLine_261 : decode cX12_logLine 261 = .ok (.getfield 193, 3) := by decide +kernel
theorem dX12_logLine_264 : decode cX12_logLine 264 = .ok (.iastore, 1) := by decide +kernel
theorem dX12_logLine_265 : decode cX12_logLine 265 = .ok (.aload_n 0, 1) := by decide +kernel
theorem dX12_logLine_266 : decode cX12_logLine 266 = .ok (.iconst 0, 1) := by decide +kernel
theorem dX12_logLine_267 : decode cX12_logLine 267 = .ok (.invokevirtual 234, 3) := by decide +kernel
theorem dX12_logLine_270 : decode cX12_logLine 270 = .ok (.ifCond .ne 5, 3) := by decide +kernel
theorem dX12_logLine_273 : decode cX12_logLine 273 = .ok (.iconst 0, 1) := by decide +kernel
theorem dX12_logLine_274 : decode cX12_logLine 274 = .ok (.ireturn, 1) := by decide +kernel
theorem dX12_logLine_275 : decode cX12_logLine 275 = .ok (.aload_n 0, 1) := by decide +kernel
theorem dX12_logLine_276 : decode cX12_logLine 276 = .ok (.getfield 40, 3) := by decide +kernel
theorem dX12_logLine_279 : decode cX12_logLine 279 = .ok (.iload_n 1, 1) := by decide +kernel
theorem dX12_logLine_280 : decode cX12_logLine 280 = .ok (.iconst 3, 1) := by decide +kernel
theorem dX12_logLine_281 : decode cX12_logLine 281 = .ok (.iadd, 1) := by decide +kernel
theorem dX12_logLine_282 : decode cX12_logLine 282 = .ok (.aload_n 0, 1) := by decide +kernel
theorem dX12_logLine_283 : decode cX12_logLine 283 = .ok (.getfield 215, 3) := by decide +kernel
theorem dX12_logLine_286 : decode cX12_logLine 286 = .ok (.iastore, 1) := by decide +kernel
theorem dX12_logLine_287 : decode cX12_logLine 287 = .ok (.iconst 1, 1) := by decide +kernel
theorem dX12_logLine_288 : decode cX12_logLine 288 = .ok (.ireturn, 1) := by decide +kernel
theorem dX12_readSet_0 : decode cX12_readSet 0 = .ok (.aload_n 0, 1) := by decide +kernel
theorem dX12_readSet_1 : decode cX12_readSet 1 = .ok (.getfield 40, 3) := by decide +kernel
theorem dX12_readSet_4 : decode cX12_readSet 4 = .ok (.iload_n 1, 1) := by decide +kernel
theorem dX12_readSet_5 : decode cX12_readSet 5 = .ok (.iconst 0, 1) := by decide +kernel
theorem dX12_readSet_6 : decode cX12_readSet 6 = .ok (.iastore, 1) := by decide +kernel
theorem dX12_readSet_7 : decode cX12_readSet 7 = .ok (.aload_n 0, 1) := by decide +kernel
theorem dX12_readSet_8 : decode cX12_readSet 8 = .ok (.getfield 40, 3) := by decide +kernel
theorem dX12_readSet_11 : decode cX12_readSet 11 = .ok (.iload_n 1, 1) := by decide +kernel
theorem dX12_readSet_12 : decode cX12_readSet 12 = .ok (.iaload, 1) := by decide +kernel
theorem dX12_readSet_13 : decode cX12_readSet 13 = .ok (.ifCond .eq 12, 3) := by decide +kernel
theorem dX12_readSet_16 : decode cX12_readSet 16 = .ok (.aload_n 0, 1) := by decide +kernel
theorem dX12_readSet_17 : decode cX12_readSet 17 = .ok (.bipush 59, 2) := by decide +kernel
theorem dX12_readSet_19 : decode cX12_readSet 19 = .ok (.invokevirtual 180, 3) := by decide +kernel
theorem dX12_readSet_22 : decode cX12_readSet 22 = .ok (.ifCond .ne 64, 3) := by decide +kernel
theorem dX12_readSet_25 : decode cX12_readSet 25 = .ok (.aload_n 0, 1) := by decide +kernel
theorem dX12_readSet_26 : decode cX12_readSet 26 = .ok (.bipush 9, 2) := by decide +kernel
theorem dX12_readSet_28 : decode cX12_readSet 28 = .ok (.aload_n 0, 1) := by decide +kernel
theorem dX12_readSet_29 : decode cX12_readSet 29 = .ok (.getfield 33, 3) := by decide +kernel
theorem dX12_readSet_32 : decode cX12_readSet 32 = .ok (.iconst 1, 1) := by decide +kernel
theorem dX12_readSet_33 : decode cX12_readSet 33 = .ok (.iaload, 1) := by decide +kernel
theorem dX12_readSet_34 : decode cX12_readSet 34 = .ok (.invokevirtual 204, 3) := by decide +kernel
theorem dX12_readSet_37 : decode cX12_readSet 37 = .ok (.ifCond .ne 5, 3) := by decide +kernel
theorem dX12_readSet_40 : decode cX12_readSet 40 = .ok (.iconst 0, 1) := by decide +kernel
theorem dX12_readSet_41 : decode cX12_readSet 41 = .ok (.ireturn, 1) := by decide +kernel
theorem dX12_readSet_42 : decode cX12_readSet 42 = .ok (.aload_n 0, 1) := by decide +kernel
theorem dX12_readSet_43 : decode cX12_readSet 43 = .ok (.getfield 40, 3) := by decide +kernel
theorem dX12_readSet_46 : decode cX12_readSet 46 = .ok (.iload_n 1, 1) := by decide +kernel
theorem dX12_readSet_47 : decode cX12_readSet 47 = .ok (.iaload, 1) := by decide +kernel
theorem dX12_readSet_48 : decode cX12_readSet 48 = .ok (.aload_n 0, 1) := by decide +kernel
theorem dX12_readSet_49 : decode cX12_readSet 49 = .ok (.getfield 193, 3) := by decide +kernel
theorem dX12_readSet_52 : decode cX12_readSet 52 = .ok (.invokestatic 221, 3) := by decide +kernel
theorem dX12_readSet_55 : decode cX12_readSet 55 = .ok (.ifCond .eq 9, 3) := by decide +kernel
theorem dX12_readSet_58 : decode cX12_readSet 58 = .ok (.aload_n 0, 1) := by decide +kernel
theorem dX12_readSet_59 : decode cX12_readSet 59 = .ok (.iconst 3, 1) := by decide +kernel
theorem dX12_readSet_60 : decode cX12_readSet 60 = .ok (.invokevirtual 183, 3) := by decide +kernel
theorem dX12_readSet_63 : decode cX12_readSet 63 = .ok (.ireturn, 1) := by decide +kernel
theorem dX12_readSet_64 : decode cX12_readSet 64 = .ok (.aload_n 0, 1) := by decide +kernel
theorem dX12_readSet_65 : decode cX12_readSet 65 = .ok (.getfield 40, 3) := by decide +kernel
theorem dX12_readSet_68 : decode cX12_readSet 68 = .ok (.iload_n 1, 1) := by decide +kernel
theorem dX12_readSet_69 : decode cX12_readSet 69 = .ok (.dup2, 1) := by decide +kernel
theorem dX12_readSet_70 : decode cX12_readSet 70 = .ok (.iaload, 1) := by decide +kernel
theorem dX12_readSet_71 : decode cX12_readSet 71 = .ok (.iconst 1, 1) := by decide +kernel
theorem dX12_readSet_72 : decode cX12_readSet 72 = .ok (.aload_n 0, 1) := by decide +kernel
theorem dX12_readSet_73 : decode cX12_readSet 73 = .ok (.getfield 193, 3) := by decide +kernel
theorem dX12_readSet_76 : decode cX12_readSet 76 = .ok (.ishl, 1) := by decide +kernel
theorem dX12_readSet_77 : decode cX12_readSet 77 = .ok (.ior, 1) := by decide +kernel
theorem dX12_readSet_78 : decode cX12_readSet 78 = .ok (.iastore, 1) := by decide +kernel
theorem dX12_readSet_79 : decode cX12_readSet 79 = .ok (.aload_n 0, 1) := by decide +kernel
theorem dX12_readSet_80 : decode cX12_readSet 80 = .ok (.invokevirtual 186, 3) := by decide +kernel
theorem dX12_readSet_83 : decode cX12_readSet 83 = .ok (.goto (-76), 3) := by decide +kernel
theorem dX12_readSet_86 : decode cX12_readSet 86 = .ok (.iconst 1, 1) := by decide +kernel
theorem dX12_readSet_87 : decode cX12_readSet 87 = .ok (.ireturn, 1) := by decide +kernel
theorem dX12_does_0 : decode cX12_does 0 = .ok (.iload_n 1, 1) := by decide +kernel
theorem dX12_does_1 : decode cX12_does 1 = .ok (.ifCond .ne 11, 3) := by decide +kernel
theorem dX12_does_4 : decode cX12_does 4 = .ok (.aload_n 0, 1) := by decide +kernel
theorem dX12_does_5 : decode cX12_does 5 = .ok (.iload_n 2, 1) := by decide +kernel
theorem dX12_does_6 : decode cX12_does 6 = .ok (.invokevirtual 299, 3) := by decide +kernel
theorem dX12_does_9 : decode cX12_does 9 = .ok (.goto 53, 3) := by decide +kernel
theorem dX12_does_12 : decode cX12_does 12 = .ok (.iload_n 1, 1) := by decide +kernel
theorem dX12_does_13 : decode cX12_does 13 = .ok (.iconst 1, 1) := by decide +kernel
theorem dX12_does_14 : decode cX12_does 14 = .ok (.if_icmp .ne 11, 3) := by decide +kernel
theorem dX12_does_17 : decode cX12_does 17 = .ok (.aload_n 0, 1) := by decide +kernel
theorem dX12_does_18 : decode cX12_does 18 = .ok (.iload_n 2, 1) := by decide +kernel
theorem dX12_does_19 : decode cX12_does 19 = .ok (.invokevirtual 308, 3) := by decide +kernel
theorem dX12_does_22 : decode cX12_does 22 = .ok (.goto 40, 3) := by decide +kernel
theorem dX12_does_25 : decode cX12_does 25 = .ok (.iload_n 1, 1) := by decide +kernel
theorem dX12_does_26 : decode cX12_does 26 = .ok (.iconst 2, 1) := by decide +kernel
theorem dX12_does_27 : decode cX12_does 27 = .ok (.if_icmp .ne 11, 3) := by decide +kernel
theorem dX12_does_30 : decode cX12_does 30 = .ok (.aload_n 0, 1) := by decide +kernel
theorem dX12_does_31 : decode cX12_does 31 = .ok (.iload_n 2, 1) := by decide +kernel
theorem dX12_does_32 : decode cX12_does 32 = .ok (.invokevirtual 311, 3) := by decide +kernel
theorem dX12_does_35 : decode cX12_does 35 = .ok (.goto 27, 3) := by decide +kernel
theorem dX12_does_38 : decode cX12_does 38 = .ok (.iload_n 1, 1) := by decide +kernel
theorem dX12_does_39 : decode cX12_does 39 = .ok (.iconst 3, 1) := by decide +kernel
theorem dX12_does_40 : decode cX12_does 40 = .ok (.if_icmp .ne 14, 3) := by decide +kernel
theorem dX12_does_43 : decode cX12_does 43 = .ok (.aload_n 0, 1) := by decide +kernel
theorem dX12_does_44 : decode cX12_does 44 = .ok (.iload_n 2, 1) := by decide +kernel
theorem dX12_does_45 : decode cX12_does 45 = .ok (.iload_n 3, 1) := by decide +kernel
theorem dX12_does_46 : decode cX12_does 46 = .ok (.iload 4, 2) := by decide +kernel
theorem dX12_does_48 : decode cX12_does 48 = .ok (.invokevirtual 317, 3) := by decide +kernel
theorem dX12_does_51 : decode cX12_does 51 = .ok (.goto 11, 3) := by decide +kernel
theorem dX12_does_54 : decode cX12_does 54 = .ok (.aload_n 0, 1) := by decide +kernel
theorem dX12_does_55 : decode cX12_does 55 = .ok (.iload_n 2, 1) := by decide +kernel
theorem dX12_does_56 : decode cX12_does 56 = .ok (.iload_n 3, 1) := by decide +kernel
theorem dX12_does_57 : decode cX12_does 57 = .ok (.iload 4, 2) := by decide +kernel
theorem dX12_does_59 : decode cX12_does 59 = .ok (.invokevirtual 325, 3) := by decide +kernel
theorem dX12_does_62 : decode cX12_does 62 = .ok (.istore 5, 2) := by decide +kernel
theorem dX12_does_64 : decode cX12_does 64 = .ok (.iload 5, 2) := by decide +kernel
theorem dX12_does_66 : decode cX12_does 66 = .ok (.ifCond .le 11, 3) := by decide +kernel
theorem dX12_does_69 : decode cX12_does 69 = .ok (.bipush 10, 2) := by decide +kernel
theorem dX12_does_71 : decode cX12_does 71 = .ok (.iload_n 1, 1) := by decide +kernel
theorem dX12_does_72 : decode cX12_does 72 = .ok (.imul, 1) := by decide +kernel
theorem dX12_does_73 : decode cX12_does 73 = .ok (.iload 5, 2) := by decide +kernel
theorem dX12_does_75 : decode cX12_does 75 = .ok (.iadd, 1) := by decide +kernel
theorem dX12_does_76 : decode cX12_does 76 = .ok (.ireturn, 1) := by decide +kernel
theorem dX12_does_77 : decode cX12_does 77 = .ok (.iload_n 1, 1) := by decide +kernel
theorem dX12_does_78 : decode cX12_does 78 = .ok (.ifCond .ne 11, 3) := by decide +kernel
theorem dX12_does_81 : decode cX12_does 81 = .ok (.aload_n 0, 1) := by decide +kernel
theorem dX12_does_82 : decode cX12_does 82 = .ok (.iload_n 2, 1) := by decide +kernel
theorem dX12_does_83 : decode cX12_does 83 = .ok (.invokevirtual 305, 3) := by decide +kernel
theorem dX12_does_86 : decode cX12_does 86 = .ok (.goto 56, 3) := by decide +kernel
theorem dX12_does_89 : decode cX12_does 89 = .ok (.iload_n 1, 1) := by decide +kernel
theorem dX12_does_90 : decode cX12_does 90 = .ok (.iconst 1, 1) := by decide +kernel
theorem dX12_does_91 : decode cX12_does 91 = .ok (.if_icmp .ne 14, 3) := by decide +kernel
theorem dX12_does_94 : decode cX12_does 94 = .ok (.aload_n 0, 1) := by decide +kernel
theorem dX12_does_95 : decode cX12_does 95 = .ok (.getfield 33, 3) := by decide +kernel
theorem dX12_does_98 : decode cX12_does 98 = .ok (.bipush 126, 2) := by decide +kernel
theorem dX12_does_100 : decode cX12_does 100 = .ok (.iload_n 2, 1) := by decide +kernel
theorem dX12_does_101 : decode cX12_does 101 = .ok (.iastore, 1) := by decide +kernel
theorem dX12_does_102 : decode cX12_does 102 = .ok (.goto 40, 3) := by decide +kernel
theorem dX12_does_105 : decode cX12_does 105 = .ok (.iload_n 1, 1) := by decide +kernel
theorem dX12_does_106 : decode cX12_does 106 = .ok (.iconst 2, 1) := by decide +kernel
theorem dX12_does_107 : decode cX12_does 107 = .ok (.if_icmp .ne 11, 3) := by decide +kernel
theorem dX12_does_110 : decode cX12_does 110 = .ok (.aload_n 0, 1) := by decide +kernel
theorem dX12_does_111 : decode cX12_does 111 = .ok (.iload_n 2, 1) := by decide +kernel
theorem dX12_does_112 : decode cX12_does 112 = .ok (.invokevirtual 314, 3) := by decide +kernel
theorem dX12_does_115 : decode cX12_does 115 = .ok (.goto 27, 3) := by decide +kernel
theorem dX12_does_118 : decode cX12_does 118 = .ok (.iload_n 1, 1) := by decide +kernel
theorem dX12_does_119 : decode cX12_does 119 = .ok (.iconst 3, 1) := by decide +kernel
theorem dX12_does_120 : decode cX12_does 120 = .ok (.if_icmp .ne 14, 3) := by decide +kernel
theorem dX12_does_123 : decode cX12_does 123 = .ok (.aload_n 0, 1) := by decide +kernel
theorem dX12_does_124 : decode cX12_does 124 = .ok (.iload_n 2, 1) := by decide +kernel
theorem dX12_does_125 : decode cX12_does 125 = .ok (.iload_n 3, 1) := by decide +kernel
theorem dX12_does_126 : decode cX12_does 126 = .ok (.iload 4, 2) := by decide +kernel
theorem dX12_does_128 : decode cX12_does 128 = .ok (.invokevirtual 321, 3) := by decide +kernel
theorem dX12_does_131 : decode cX12_does 131 = .ok (.goto 11, 3) := by decide +kernel
theorem dX12_does_134 : decode cX12_does 134 = .ok (.aload_n 0, 1) := by decide +kernel
theorem dX12_does_135 : decode cX12_does 135 = .ok (.iload_n 2, 1) := by decide +kernel
theorem dX12_does_136 : decode cX12_does 136 = .ok (.iload_n 3, 1) := by decide +kernel
theorem dX12_does_137 : decode cX12_does 137 = .ok (.iload 4, 2) := by decide +kernel
theorem dX12_does_139 : decode cX12_does 139 = .ok (.invokevirtual 328, 3) := by decide +kernel
theorem dX12_does_142 : decode cX12_does 142 = .ok (.iconst 0, 1) := by decide +kernel
theorem dX12_does_143 : decode cX12_does 143 = .ok (.ireturn, 1) := by decide +kernel
theorem dX12_log_0 : decode cX12_log 0 = .ok (.aload_n 0, 1) := by decide +kernel
theorem dX12_log_1 : decode cX12_log 1 = .ok (.iconst 0, 1) := by decide +kernel
theorem dX12_log_2 : decode cX12_log 2 = .ok (.putfield 1, 3) := by decide +kernel
theorem dX12_log_5 : decode cX12_log 5 = .ok (.iload_n 1, 1) := by decide +kernel
theorem dX12_log_6 : decode cX12_log 6 = .ok (.iconst 0, 1) := by decide +kernel
theorem dX12_log_7 : decode cX12_log 7 = .ok (.iconst 1, 1) := by decide +kernel
theorem dX12_log_8 : decode cX12_log 8 = .ok (.invokestatic 189, 3) := by decide +kernel
theorem dX12_log_11 : decode cX12_log 11 = .ok (.ifCond .ne 7, 3) := by decide +kernel
theorem dX12_log_14 : decode cX12_log 14 = .ok (.sipush (-1000), 3) := by decide +kernel
theorem dX12_log_17 : decode cX12_log 17 = .ok (.ireturn, 1) := by decide +kernel
theorem dX12_log_18 : decode cX12_log 18 = .ok (.aload_n 0, 1) := by decide +kernel
theorem dX12_log_19 : decode cX12_log 19 = .ok (.sipush 400, 3) := by decide +kernel
theorem dX12_log_22 : decode cX12_log 22 = .ok (.invokevirtual 237, 3) := by decide +kernel
theorem dX12_log_25 : decode cX12_log 25 = .ok (.aload_n 0, 1) := by decide +kernel
theorem dX12_log_26 : decode cX12_log 26 = .ok (.iconst 0, 1) := by decide +kernel
theorem dX12_log_27 : decode cX12_log 27 = .ok (.putfield 174, 3) := by decide +kernel
theorem dX12_log_30 : decode cX12_log 30 = .ok (.aload_n 0, 1) := by decide +kernel
theorem dX12_log_31 : decode cX12_log 31 = .ok (.iconst 0, 1) := by decide +kernel
theorem dX12_log_32 : decode cX12_log 32 = .ok (.putfield 385, 3) := by decide +kernel
theorem dX12_log_35 : decode cX12_log 35 = .ok (.aload_n 0, 1) := by decide +kernel
theorem dX12_log_36 : decode cX12_log 36 = .ok (.invokevirtual 186, 3) := by decide +kernel
theorem dX12_log_39 : decode cX12_log 39 = .ok (.aload_n 0, 1) := by decide +kernel
theorem dX12_log_40 : decode cX12_log 40 = .ok (.getfield 157, 3) := by decide +kernel
theorem dX12_log_43 : decode cX12_log 43 = .ok (.ifCond .eq 40, 3) := by decide +kernel
theorem dX12_log_46 : decode cX12_log 46 = .ok (.aload_n 0, 1) := by decide +kernel
theorem dX12_log_47 : decode cX12_log 47 = .ok (.invokevirtual 394, 3) := by decide +kernel
theorem dX12_log_50 : decode cX12_log 50 = .ok (.ifCond .eq 12, 3) := by decide +kernel
theorem dX12_log_53 : decode cX12_log 53 = .ok (.aload_n 0, 1) := by decide +kernel
theorem dX12_log_54 : decode cX12_log 54 = .ok (.bipush 59, 2) := by decide +kernel
theorem dX12_log_56 : decode cX12_log 56 = .ok (.invokevirtual 246, 3) := by decide +kernel
theorem dX12_log_59 : decode cX12_log 59 = .ok (.ifCond .ne 11, 3) := by decide +kernel
theorem dX12_log_62 : decode cX12_log 62 = .ok (.bipush (-2), 2) := by decide +kernel
theorem dX12_log_64 : decode cX12_log 64 = .ok (.aload_n 0, 1) := by decide +kernel
theorem dX12_log_65 : decode cX12_log 65 = .ok (.getfield 177, 3) := by decide +kernel
theorem dX12_log_68 : decode cX12_log 68 = .ok (.isub, 1) := by decide +kernel
theorem dX12_log_69 : decode cX12_log 69 = .ok (.ireturn, 1) := by decide +kernel
theorem dX12_log_70 : decode cX12_log 70 = .ok (.aload_n 0, 1) := by decide +kernel
theorem dX12_log_71 : decode cX12_log 71 = .ok (.dup, 1) := by decide +kernel
theorem dX12_log_72 : decode cX12_log 72 = .ok (.getfield 385, 3) := by decide +kernel
theorem dX12_log_75 : decode cX12_log 75 = .ok (.iconst 1, 1) := by decide +kernel
theorem dX12_log_76 : decode cX12_log 76 = .ok (.iadd, 1) := by decide +kernel
theorem dX12_log_77 : decode cX12_log 77 = .ok (.putfield 385, 3) := by decide +kernel
theorem dX12_log_80 : decode cX12_log 80 = .ok (.goto (-41), 3) := by decide +kernel
theorem dX12_log_83 : decode cX12_log 83 = .ok (.aload_n 0, 1) := by decide +kernel
theorem dX12_log_84 : decode cX12_log 84 = .ok (.invokevirtual 379, 3) := by decide +kernel
theorem dX12_log_87 : decode cX12_log 87 = .ok (.iconst 0, 1) := by decide +kernel
theorem dX12_log_88 : decode cX12_log 88 = .ok (.istore_n 2, 1) := by decide +kernel
theorem dX12_log_89 : decode cX12_log 89 = .ok (.iload_n 2, 1) := by decide +kernel
theorem dX12_log_90 : decode cX12_log 90 = .ok (.iconst 4, 1) := by decide +kernel
theorem dX12_log_91 : decode cX12_log 91 = .ok (.if_icmp .ge 16, 3) := by decide +kernel
theorem dX12_log_94 : decode cX12_log 94 = .ok (.aload_n 0, 1) := by decide +kernel
theorem dX12_log_95 : decode cX12_log 95 = .ok (.getfield 81, 3) := by decide +kernel
theorem dX12_log_98 : decode cX12_log 98 = .ok (.iload_n 2, 1) := by decide +kernel
theorem dX12_log_99 : decode cX12_log 99 = .ok (.iconst 0, 1) := by decide +kernel
theorem dX12_log_100 : decode cX12_log 100 = .ok (.iastore, 1) := by decide +kernel
theorem dX12_log_101 : decode cX12_log 101 = .ok (.iinc 2 1, 3) := by decide +kernel
theorem dX12_log_104 : decode cX12_log 104 = .ok (.goto (-15), 3) := by decide +kernel
theorem dX12_log_107 : decode cX12_log 107 = .ok (.aload_n 0, 1) := by decide +kernel
theorem dX12_log_108 : decode cX12_log 108 = .ok (.getfield 33, 3) := by decide +kernel
theorem dX12_log_111 : decode cX12_log 111 = .ok (.sipush 128, 3) := by decide +kernel
theorem dX12_log_114 : decode cX12_log 114 = .ok (.iaload, 1) := by decide +kernel
theorem dX12_log_115 : decode cX12_log 115 = .ok (.istore_n 2, 1) := by decide +kernel
theorem dX12_log_116 : decode cX12_log 116 = .ok (.iconst (-1), 1) := by decide +kernel
theorem dX12_log_117 : decode cX12_log 117 = .ok (.istore_n 3, 1) := by decide +kernel
theorem dX12_log_118 : decode cX12_log 118 = .ok (.iconst 0, 1) := by decide +kernel
theorem dX12_log_119 : decode cX12_log 119 = .ok (.istore 4, 2) := by decide +kernel
theorem dX12_log_121 : decode cX12_log 121 = .ok (.iload 4, 2) := by decide +kernel
theorem dX12_log_123 : decode cX12_log 123 = .ok (.aload_n 0, 1) := by decide +kernel
theorem dX12_log_124 : decode cX12_log 124 = .ok (.getfield 385, 3) := by decide +kernel
theorem dX12_log_127 : decode cX12_log 127 = .ok (.if_icmp .ge 90, 3) := by decide +kernel
theorem dX12_log_130 : decode cX12_log 130 = .ok (.iload_n 3, 1) := by decide +kernel
theorem dX12_log_131 : decode cX12_log 131 = .ok (.ifCond .ge 86, 3) := by decide +kernel
theorem dX12_log_134 : decode cX12_log 134 = .ok (.aload_n 0, 1) := by decide +kernel
theorem dX12_log_135 : decode cX12_log 135 = .ok (.getfield 81, 3) := by decide +kernel
theorem dX12_log_138 : decode cX12_log 138 = .ok (.iconst 0, 1) := by decide +kernel
theorem dX12_log_139 : decode cX12_log 139 = .ok (.aload_n 0, 1) := by decide +kernel
theorem dX12_log_140 : decode cX12_log 140 = .ok (.aload_n 0, 1) := by decide +kernel
theorem dX12_log_141 : decode cX12_log 141 = .ok (.getfield 40, 3) := by decide +kernel
theorem dX12_log_144 : decode cX12_log 144 = .ok (.iconst 4, 1) := by decide +kernel
theorem dX12_log_145 : decode cX12_log 145 = .ok (.iload 4, 2) := by decide +kernel
theorem dX12_log_147 : decode cX12_log 147 = .ok (.imul, 1) := by decide +kernel
theorem dX12_log_148 : decode cX12_log 148 = .ok (.iaload, 1) := by decide +kernel
theorem dX12_log_149 : decode cX12_log 149 = .ok (.aload_n 0, 1) := by decide +kernel
theorem dX12_log_150 : decode cX12_log 150 = .ok (.getfield 40, 3) := by decide +kernel
theorem dX12_log_153 : decode cX12_log 153 = .ok (.iconst 4, 1) := by decide +kernel
theorem dX12_log_154 : decode cX12_log 154 = .ok (.iload 4, 2) := by decide +kernel
theorem dX12_log_156 : decode cX12_log 156 = .ok (.imul, 1) := by decide +kernel
theorem dX12_log_157 : decode cX12_log 157 = .ok (.iconst 1, 1) := by decide +kernel
theorem dX12_log_158 : decode cX12_log 158 = .ok (.iadd, 1) := by decide +kernel
theorem dX12_log_159 : decode cX12_log 159 = .ok (.iaload, 1) := by decide +kernel
theorem dX12_log_160 : decode cX12_log 160 = .ok (.aload_n 0, 1) := by decide +kernel
theorem dX12_log_161 : decode cX12_log 161 = .ok (.getfield 40, 3) := by decide +kernel
theorem dX12_log_164 : decode cX12_log 164 = .ok (.iconst 4, 1) := by decide +kernel
theorem dX12_log_165 : decode cX12_log 165 = .ok (.iload 4, 2) := by decide +kernel
theorem dX12_log_167 : decode cX12_log 167 = .ok (.imul, 1) := by decide +kernel
theorem dX12_log_168 : decode cX12_log 168 = .ok (.iconst 2, 1) := by decide +kernel
theorem dX12_log_169 : decode cX12_log 169 = .ok (.iadd, 1) := by decide +kernel
theorem dX12_log_170 : decode cX12_log 170 = .ok (.iaload, 1) := by decide +kernel
theorem dX12_log_171 : decode cX12_log 171 = .ok (.aload_n 0, 1) := by decide +kernel
theorem dX12_log_172 : decode cX12_log 172 = .ok (.getfield 40, 3) := by decide +kernel
theorem dX12_log_175 : decode cX12_log 175 = .ok (.iconst 4, 1) := by decide +kernel
theorem dX12_log_176 : decode cX12_log 176 = .ok (.iload 4, 2) := by decide +kernel
theorem dX12_log_178 : decode cX12_log 178 = .ok (.imul, 1) := by decide +kernel
theorem dX12_log_179 : decode cX12_log 179 = .ok (.iconst 3, 1) := by decide +kernel
theorem dX12_log_180 : decode cX12_log 180 = .ok (.iadd, 1) := by decide +kernel
theorem dX12_log_181 : decode cX12_log 181 = .ok (.iaload, 1) := by decide +kernel
theorem dX12_log_182 : decode cX12_log 182 = .ok (.invokevirtual 397, 3) := by decide +kernel
theorem dX12_log_185 : decode cX12_log 185 = .ok (.iastore, 1) := by decide +kernel
theorem dX12_log_186 : decode cX12_log 186 = .ok (.aload_n 0, 1) := by decide +kernel
theorem dX12_log_187 : decode cX12_log 187 = .ok (.getfield 81, 3) := by decide +kernel
theorem dX12_log_190 : decode cX12_log 190 = .ok (.iconst 0, 1) := by decide +kernel
theorem dX12_log_191 : decode cX12_log 191 = .ok (.iaload, 1) := by decide +kernel
theorem dX12_log_192 : decode cX12_log 192 = .ok (.ifCond .le 9, 3) := by decide +kernel
theorem dX12_log_195 : decode cX12_log 195 = .ok (.iload 4, 2) := by decide +kernel
theorem dX12_log_197 : decode cX12_log 197 = .ok (.istore_n 3, 1) := by decide +kernel
theorem dX12_log_198 : decode cX12_log 198 = .ok (.goto 13, 3) := by decide +kernel
theorem dX12_log_201 : decode cX12_log 201 = .ok (.aload_n 0, 1) := by decide +kernel
theorem dX12_log_202 : decode cX12_log 202 = .ok (.getfield 81, 3) := by decide +kernel
theorem dX12_log_205 : decode cX12_log 205 = .ok (.iconst 1, 1) := by decide +kernel
theorem dX12_log_206 : decode cX12_log 206 = .ok (.dup2, 1) := by decide +kernel
theorem dX12_log_207 : decode cX12_log 207 = .ok (.iaload, 1) := by decide +kernel
theorem dX12_log_208 : decode cX12_log 208 = .ok (.iconst 1, 1) := by decide +kernel
theorem dX12_log_209 : decode cX12_log 209 = .ok (.iadd, 1) := by decide +kernel
theorem dX12_log_210 : decode cX12_log 210 = .ok (.iastore, 1) := by decide +kernel
theorem dX12_log_211 : decode cX12_log 211 = .ok (.iinc 4 1, 3) := by decide +kernel
theorem dX12_log_214 : decode cX12_log 214 = .ok (.goto (-93), 3) := by decide +kernel
theorem dX12_log_217 : decode cX12_log 217 = .ok (.aload_n 0, 1) := by decide +kernel
theorem dX12_log_218 : decode cX12_log 218 = .ok (.getfield 81, 3) := by decide +kernel
theorem dX12_log_221 : decode cX12_log 221 = .ok (.iconst 2, 1) := by decide +kernel
theorem dX12_log_222 : decode cX12_log 222 = .ok (.aload_n 0, 1) := by decide +kernel
theorem dX12_log_223 : decode cX12_log 223 = .ok (.getfield 33, 3) := by decide +kernel
theorem dX12_log_226 : decode cX12_log 226 = .ok (.sipush 128, 3) := by decide +kernel
theorem dX12_log_229 : decode cX12_log 229 = .ok (.iaload, 1) := by decide +kernel
theorem dX12_log_230 : decode cX12_log 230 = .ok (.iload_n 2, 1) := by decide +kernel
theorem dX12_log_231 : decode cX12_log 231 = .ok (.isub, 1) := by decide +kernel
theorem dX12_log_232 : decode cX12_log 232 = .ok (.iastore, 1) := by decide +kernel
theorem dX12_log_233 : decode cX12_log 233 = .ok (.aload_n 0, 1) := by decide +kernel
theorem dX12_log_234 : decode cX12_log 234 = .ok (.getfield 81, 3) := by decide +kernel
theorem dX12_log_237 : decode cX12_log 237 = .ok (.iconst 3, 1) := by decide +kernel
theorem dX12_log_238 : decode cX12_log 238 = .ok (.aload_n 0, 1) := by decide +kernel
theorem dX12_log_239 : decode cX12_log 239 = .ok (.getfield 33, 3) := by decide +kernel
theorem dX12_log_242 : decode cX12_log 242 = .ok (.sipush 129, 3) := by decide +kernel
theorem dX12_log_245 : decode cX12_log 245 = .ok (.iaload, 1) := by decide +kernel
theorem dX12_log_246 : decode cX12_log 246 = .ok (.iastore, 1) := by decide +kernel
theorem dX12_log_247 : decode cX12_log 247 = .ok (.aload_n 0, 1) := by decide +kernel
theorem dX12_log_248 : decode cX12_log 248 = .ok (.iconst 1, 1) := by decide +kernel
theorem dX12_log_249 : decode cX12_log 249 = .ok (.putfield 401, 3) := by decide +kernel
theorem dX12_log_252 : decode cX12_log 252 = .ok (.iload_n 1, 1) := by decide +kernel
theorem dX12_log_253 : decode cX12_log 253 = .ok (.iconst 1, 1) := by decide +kernel
theorem dX12_log_254 : decode cX12_log 254 = .ok (.if_icmp .ne 58, 3) := by decide +kernel
theorem dX12_log_257 : decode cX12_log 257 = .ok (.aload_n 0, 1) := by decide +kernel
theorem dX12_log_258 : decode cX12_log 258 = .ok (.getfield 81, 3) := by decide +kernel
theorem dX12_log_261 : decode cX12_log 261 = .ok (.iconst 1, 1) := by decide +kernel
theorem dX12_log_262 : decode cX12_log 262 = .ok (.iaload, 1) := by decide +kernel
theorem dX12_log_263 : decode cX12_log 263 = .ok (.ifCond .le 49, 3) := by decide +kernel
theorem dX12_log_266 : decode cX12_log 266 = .ok (.aload_n 0, 1) := by decide +kernel
theorem dX12_log_267 : decode cX12_log 267 = .ok (.invokevirtual 302, 3) := by decide +kernel
theorem dX12_log_270 : decode cX12_log 270 = .ok (.iconst 0, 1) := by decide +kernel
theorem dX12_log_271 : decode cX12_log 271 = .ok (.istore 4, 2) := by decide +kernel
theorem dX12_log_273 : decode cX12_log 273 = .ok (.iload 4, 2) := by decide +kernel
theorem dX12_log_275 : decode cX12_log 275 = .ok (.sipush 207, 3) := by decide +kernel
theorem dX12_log_278 : decode cX12_log 278 = .ok (.if_icmp .ge 34, 3) := by decide +kernel
theorem dX12_log_281 : decode cX12_log 281 = .ok (.aload_n 0, 1) := by decide +kernel
theorem dX12_log_282 : decode cX12_log 282 = .ok (.getfield 50, 3) := by decide +kernel
theorem dX12_log_285 : decode cX12_log 285 = .ok (.sipush 207, 3) := by decide +kernel
theorem dX12_log_288 : decode cX12_log 288 = .ok (.aload_n 0, 1) := by decide +kernel
theorem dX12_log_289 : decode cX12_log 289 = .ok (.getfield 249, 3) := by decide +kernel
theorem dX12_log_292 : decode cX12_log 292 = .ok (.iconst 1, 1) := by decide +kernel
theorem dX12_log_293 : decode cX12_log 293 = .ok (.isub, 1) := by decide +kernel
theorem dX12_log_294 : decode cX12_log 294 = .ok (.imul, 1) := by decide +kernel
theorem dX12_log_295 : decode cX12_log 295 = .ok (.iload 4, 2) := by decide +kernel
theorem dX12_log_297 : decode cX12_log 297 = .ok (.iadd, 1) := by decide +kernel
theorem dX12_log_298 : decode cX12_log 298 = .ok (.aload_n 0, 1) := by decide +kernel
theorem dX12_log_299 : decode cX12_log 299 = .ok (.getfield 53, 3) := by decide +kernel
theorem dX12_log_302 : decode cX12_log 302 = .ok (.iload 4, 2) := by decide +kernel
theorem dX12_log_304 : decode cX12_log 304 = .ok (.iaload, 1) := by decide +kernel
theorem dX12_log_305 : decode cX12_log 305 = .ok (.iastore, 1) := by decide +kernel
theorem dX12_log_306 : decode cX12_log 306 = .ok (.iinc 4 1, 3) := by decide +kernel
theorem dX12_log_309 : decode cX12_log 309 = .ok (.goto (-36), 3) := by decide +kernel
theorem dX12_log_312 : decode cX12_log 312 = .ok (.iload_n 1, 1) := by decide +kernel
theorem dX12_log_313 : decode cX12_log 313 = .ok (.ifCond .ne 7, 3) := by decide +kernel
theorem dX12_log_316 : decode cX12_log 316 = .ok (.aload_n 0, 1) := by decide +kernel
theorem dX12_log_317 : decode cX12_log 317 = .ok (.invokevirtual 382, 3) := by decide +kernel
theorem dX12_log_320 : decode cX12_log 320 = .ok (.iload_n 3, 1) := by decide +kernel
theorem dX12_log_321 : decode cX12_log 321 = .ok (.ireturn, 1) := by decide +kernel
theorem dX12_logged_0 : decode cX12_logged 0 = .ok (.aload_n 0, 1) := by decide +kernel
theorem dX12_logged_1 : decode cX12_logged 1 = .ok (.iconst 0, 1) := by decide +kernel
theorem dX12_logged_2 : decode cX12_logged 2 = .ok (.putfield 1, 3) := by decide +kernel
theorem dX12_logged_5 : decode cX12_logged 5 = .ok (.aload_n 0, 1) := by decide +kernel
theorem dX12_logged_6 : decode cX12_logged 6 = .ok (.getfield 401, 3) := by decide +kernel
theorem dX12_logged_9 : decode cX12_logged 9 = .ok (.ifCond .eq 21, 3) := by decide +kernel
theorem dX12_logged_12 : decode cX12_logged 12 = .ok (.iload_n 1, 1) := by decide +kernel
theorem dX12_logged_13 : decode cX12_logged 13 = .ok (.iconst 0, 1) := by decide +kernel
theorem dX12_logged_14 : decode cX12_logged 14 = .ok (.iconst 3, 1) := by decide +kernel
theorem dX12_logged_15 : decode cX12_logged 15 = .ok (.invokestatic 189, 3) := by decide +kernel
theorem dX12_logged_18 : decode cX12_logged 18 = .ok (.ifCond .eq 12, 3) := by decide +kernel
theorem dX12_logged_21 : decode cX12_logged 21 = .ok (.aload_n 0, 1) := by decide +kernel
theorem dX12_logged_22 : decode cX12_logged 22 = .ok (.getfield 81, 3) := by decide +kernel
theorem dX12_logged_25 : decode cX12_logged 25 = .ok (.iload_n 1, 1) := by decide +kernel
theorem dX12_logged_26 : decode cX12_logged 26 = .ok (.iaload, 1) := by decide +kernel
theorem dX12_logged_27 : decode cX12_logged 27 = .ok (.goto 4, 3) := by decide +kernel
theorem dX12_logged_30 : decode cX12_logged 30 = .ok (.iconst (-1), 1) := by decide +kernel
theorem dX12_logged_31 : decode cX12_logged 31 = .ok (.ireturn, 1) := by decide +kernel
theorem dX12_code_0 : decode cX12_code 0 = .ok (.aload_n 0, 1) := by decide +kernel
theorem dX12_code_1 : decode cX12_code 1 = .ok (.getfield 40, 3) := by decide +kernel
theorem dX12_code_4 : decode cX12_code 4 = .ok (.iconst 3, 1) := by decide +kernel
theorem dX12_code_5 : decode cX12_code 5 = .ok (.aload_n 0, 1) := by decide +kernel
theorem dX12_code_6 : decode cX12_code 6 = .ok (.getfield 404, 3) := by decide +kernel
theorem dX12_code_9 : decode cX12_code 9 = .ok (.imul, 1) := by decide +kernel
theorem dX12_code_10 : decode cX12_code 10 = .ok (.iload_n 1, 1) := by decide +kernel
theorem dX12_code_11 : decode cX12_code 11 = .ok (.iastore, 1) := by decide +kernel
theorem dX12_code_12 : decode cX12_code 12 = .ok (.aload_n 0, 1) := by decide +kernel
theorem dX12_code_13 : decode cX12_code 13 = .ok (.getfield 40, 3) := by decide +kernel
theorem dX12_code_16 : decode cX12_code 16 = .ok (.iconst 3, 1) := by decide +kernel
theorem dX12_code_17 : decode cX12_code 17 = .ok (.aload_n 0, 1) := by decide +kernel
theorem dX12_code_18 : decode cX12_code 18 = .ok (.getfield 404, 3) := by decide +kernel
theorem dX12_code_21 : decode cX12_code 21 = .ok (.imul, 1) := by decide +kernel
theorem dX12_code_22 : decode cX12_code 22 = .ok (.iconst 1, 1) := by decide +kernel
theorem dX12_code_23 : decode cX12_code 23 = .ok (.iadd, 1) := by decide +kernel
theorem dX12_code_24 : decode cX12_code 24 = .ok (.iload_n 2, 1) := by decide +kernel
theorem dX12_code_25 : decode cX12_code 25 = .ok (.iastore, 1) := by decide +kernel
theorem dX12_code_26 : decode cX12_code 26 = .ok (.aload_n 0, 1) := by decide +kernel
theorem dX12_code_27 : decode cX12_code 27 = .ok (.getfield 40, 3) := by decide +kernel
theorem dX12_code_30 : decode cX12_code 30 = .ok (.iconst 3, 1) := by decide +kernel
theorem dX12_code_31 : decode cX12_code 31 = .ok (.aload_n 0, 1) := by decide +kernel
theorem dX12_code_32 : decode cX12_code 32 = .ok (.getfield 404, 3) := by decide +kernel
theorem dX12_code_35 : decode cX12_code 35 = .ok (.imul, 1) := by decide +kernel
theorem dX12_code_36 : decode cX12_code 36 = .ok (.iconst 2, 1) := by decide +kernel
theorem dX12_code_37 : decode cX12_code 37 = .ok (.iadd, 1) := by decide +kernel
theorem dX12_code_38 : decode cX12_code 38 = .ok (.iload_n 3, 1) := by decide +kernel
theorem dX12_code_39 : decode cX12_code 39 = .ok (.iastore, 1) := by decide +kernel
theorem dX12_code_40 : decode cX12_code 40 = .ok (.aload_n 0, 1) := by decide +kernel
theorem dX12_code_41 : decode cX12_code 41 = .ok (.dup, 1) := by decide +kernel
theorem dX12_code_42 : decode cX12_code 42 = .ok (.getfield 404, 3) := by decide +kernel
theorem dX12_code_45 : decode cX12_code 45 = .ok (.iconst 1, 1) := by decide +kernel
theorem dX12_code_46 : decode cX12_code 46 = .ok (.iadd, 1) := by decide +kernel
theorem dX12_code_47 : decode cX12_code 47 = .ok (.putfield 404, 3) := by decide +kernel
theorem dX12_code_50 : decode cX12_code 50 = .ok (.return_, 1) := by decide +kernel
theorem dX12_joins_0 : decode cX12_joins 0 = .ok (.aload_n 0, 1) := by decide +kernel
theorem dX12_joins_1 : decode cX12_joins 1 = .ok (.getfield 407, 3) := by decide +kernel
theorem dX12_joins_4 : decode cX12_joins 4 = .ok (.ifCond .le 69, 3) := by decide +kernel
theorem dX12_joins_7 : decode cX12_joins 7 = .ok (.aload_n 0, 1) := by decide +kernel
theorem dX12_joins_8 : decode cX12_joins 8 = .ok (.getfield 84, 3) := by decide +kernel
theorem dX12_joins_11 : decode cX12_joins 11 = .ok (.aload_n 0, 1) := by decide +kernel
theorem dX12_joins_12 : decode cX12_joins 12 = .ok (.getfield 407, 3) := by decide +kernel
theorem dX12_joins_15 : decode cX12_joins 15 = .ok (.iconst 1, 1) := by decide +kernel
theorem dX12_joins_16 : decode cX12_joins 16 = .ok (.isub, 1) := by decide +kernel
theorem dX12_joins_17 : decode cX12_joins 17 = .ok (.iaload, 1) := by decide +kernel
theorem dX12_joins_18 : decode cX12_joins 18 = .ok (.bipush 21, 2) := by decide +kernel
theorem dX12_joins_20 : decode cX12_joins 20 = .ok (.if_icmp .eq 25, 3) := by decide +kernel
theorem dX12_joins_23 : decode cX12_joins 23 = .ok (.aload_n 0, 1) := by decide +kernel
theorem dX12_joins_24 : decode cX12_joins 24 = .ok (.getfield 84, 3) := by decide +kernel
theorem dX12_joins_27 : decode cX12_joins 27 = .ok (.aload_n 0, 1) := by decide +kernel
theorem dX12_joins_28 : decode cX12_joins 28 = .ok (.getfield 407, 3) := by decide +kernel
theorem dX12_joins_31 : decode cX12_joins 31 = .ok (.iconst 1, 1) := by decide +kernel
theorem dX12_joins_32 : decode cX12_joins 32 = .ok (.isub, 1) := by decide +kernel
theorem dX12_joins_33 : decode cX12_joins 33 = .ok (.iaload, 1) := by decide +kernel
theorem dX12_joins_34 : decode cX12_joins 34 = .ok (.bipush 22, 2) := by decide +kernel
theorem dX12_joins_36 : decode cX12_joins 36 = .ok (.if_icmp .ne 37, 3) := by decide +kernel
theorem dX12_joins_39 : decode cX12_joins 39 = .ok (.iload_n 1, 1) := by decide +kernel
theorem dX12_joins_40 : decode cX12_joins 40 = .ok (.bipush 22, 2) := by decide +kernel
theorem dX12_joins_42 : decode cX12_joins 42 = .ok (.if_icmp .ne 31, 3) := by decide +kernel
theorem dX12_joins_45 : decode cX12_joins 45 = .ok (.aload_n 0, 1) := by decide +kernel
theorem dX12_joins_46 : decode cX12_joins 46 = .ok (.dup, 1) := by decide +kernel
theorem dX12_joins_47 : decode cX12_joins 47 = .ok (.getfield 407, 3) := by decide +kernel
theorem dX12_joins_50 : decode cX12_joins 50 = .ok (.iconst 1, 1) := by decide +kernel
theorem dX12_joins_51 : decode cX12_joins 51 = .ok (.isub, 1) := by decide +kernel
theorem dX12_joins_52 : decode cX12_joins 52 = .ok (.putfield 407, 3) := by decide +kernel
theorem dX12_joins_55 : decode cX12_joins 55 = .ok (.aload_n 0, 1) := by decide +kernel
theorem dX12_joins_56 : decode cX12_joins 56 = .ok (.aload_n 0, 1) := by decide +kernel
theorem dX12_joins_57 : decode cX12_joins 57 = .ok (.getfield 84, 3) := by decide +kernel
theorem dX12_joins_60 : decode cX12_joins 60 = .ok (.aload_n 0, 1) := by decide +kernel
theorem dX12_joins_61 : decode cX12_joins 61 = .ok (.getfield 407, 3) := by decide +kernel
theorem dX12_joins_64 : decode cX12_joins 64 = .ok (.iaload, 1) := by decide +kernel
theorem dX12_joins_65 : decode cX12_joins 65 = .ok (.iconst 0, 1) := by decide +kernel
theorem dX12_joins_66 : decode cX12_joins 66 = .ok (.iconst 0, 1) := by decide +kernel
theorem dX12_joins_67 : decode cX12_joins 67 = .ok (.invokevirtual 410, 3) := by decide +kernel
theorem dX12_joins_70 : decode cX12_joins 70 = .ok (.goto (-70), 3) := by decide +kernel
theorem dX12_joins_73 : decode cX12_joins 73 = .ok (.return_, 1) := by decide +kernel
theorem dX12_nots_0 : decode cX12_nots 0 = .ok (.aload_n 0, 1) := by decide +kernel
theorem dX12_nots_1 : decode cX12_nots 1 = .ok (.getfield 407, 3) := by decide +kernel
theorem dX12_nots_4 : decode cX12_nots 4 = .ok (.ifCond .le 50, 3) := by decide +kernel
theorem dX12_nots_7 : decode cX12_nots 7 = .ok (.aload_n 0, 1) := by decide +kernel
theorem dX12_nots_8 : decode cX12_nots 8 = .ok (.getfield 84, 3) := by decide +kernel
theorem dX12_nots_11 : decode cX12_nots 11 = .ok (.aload_n 0, 1) := by decide +kernel
theorem dX12_nots_12 : decode cX12_nots 12 = .ok (.getfield 407, 3) := by decide +kernel
theorem dX12_nots_15 : decode cX12_nots 15 = .ok (.iconst 1, 1) := by decide +kernel
theorem dX12_nots_16 : decode cX12_nots 16 = .ok (.isub, 1) := by decide +kernel
theorem dX12_nots_17 : decode cX12_nots 17 = .ok (.iaload, 1) := by decide +kernel
theorem dX12_nots_18 : decode cX12_nots 18 = .ok (.bipush 20, 2) := by decide +kernel
theorem dX12_nots_20 : decode cX12_nots 20 = .ok (.if_icmp .ne 34, 3) := by decide +kernel
theorem dX12_nots_23 : decode cX12_nots 23 = .ok (.aload_n 0, 1) := by decide +kernel
theorem dX12_nots_24 : decode cX12_nots 24 = .ok (.dup, 1) := by decide +kernel
theorem dX12_nots_25 : decode cX12_nots 25 = .ok (.getfield 407, 3) := by decide +kernel
theorem dX12_nots_28 : decode cX12_nots 28 = .ok (.iconst 1, 1) := by decide +kernel
theorem dX12_nots_29 : decode cX12_nots 29 = .ok (.isub, 1) := by decide +kernel
theorem dX12_nots_30 : decode cX12_nots 30 = .ok (.putfield 407, 3) := by decide +kernel
theorem dX12_nots_33 : decode cX12_nots 33 = .ok (.aload_n 0, 1) := by decide +kernel
theorem dX12_nots_34 : decode cX12_nots 34 = .ok (.dup, 1) := by decide +kernel
theorem dX12_nots_35 : decode cX12_nots 35 = .ok (.getfield 413, 3) := by decide +kernel
theorem dX12_nots_38 : decode cX12_nots 38 = .ok (.iconst 1, 1) := by decide +kernel
theorem dX12_nots_39 : decode cX12_nots 39 = .ok (.isub, 1) := by decide +kernel
theorem dX12_nots_40 : decode cX12_nots 40 = .ok (.putfield 413, 3) := by decide +kernel
theorem dX12_nots_43 : decode cX12_nots 43 = .ok (.aload_n 0, 1) := by decide +kernel
theorem dX12_nots_44 : decode cX12_nots 44 = .ok (.bipush 20, 2) := by decide +kernel
theorem dX12_nots_46 : decode cX12_nots 46 = .ok (.iconst 0, 1) := by decide +kernel
theorem dX12_nots_47 : decode cX12_nots 47 = .ok (.iconst 0, 1) := by decide +kernel
theorem dX12_nots_48 : decode cX12_nots 48 = .ok (.invokevirtual 410, 3) := by decide +kernel
theorem dX12_nots_51 : decode cX12_nots 51 = .ok (.goto (-51), 3) := by decide +kernel
theorem dX12_nots_54 : decode cX12_nots 54 = .ok (.return_, 1) := by decide +kernel
theorem dX12_leafOf_0 : decode cX12_leafOf 0 = .ok (.aload_n 0, 1) := by decide +kernel
theorem dX12_leafOf_1 : decode cX12_leafOf 1 = .ok (.ldc2_w 131, 3) := by decide +kernel
theorem dX12_leafOf_4 : decode cX12_leafOf 4 = .ok (.invokevirtual 208, 3) := by decide +kernel
theorem dX12_leafOf_7 : decode cX12_leafOf 7 = .ok (.ifCond .eq 7, 3) := by decide +kernel
theorem dX12_leafOf_10 : decode cX12_leafOf 10 = .ok (.iconst 0, 1) := by decide +kernel
theorem dX12_leafOf_11 : decode cX12_leafOf 11 = .ok (.goto 134, 3) := by decide +kernel
theorem dX12_leafOf_14 : decode cX12_leafOf 14 = .ok (.aload_n 0, 1) := by decide +kernel
theorem dX12_leafOf_15 : decode cX12_leafOf 15 = .ok (.ldc2_w 133, 3) := by decide +kernel
theorem dX12_leafOf_18 : decode cX12_leafOf 18 = .ok (.invokevirtual 208, 3) := by decide +kernel
theorem dX12_leafOf_21 : decode cX12_leafOf 21 = .ok (.ifCond .eq 7, 3) := by decide +kernel
theorem dX12_leafOf_24 : decode cX12_leafOf 24 = .ok (.iconst 1, 1) := by decide +kernel
theorem dX12_leafOf_25 : decode cX12_leafOf 25 = .ok (.goto 120, 3) := by decide +kernel
theorem dX12_leafOf_28 : decode cX12_leafOf 28 = .ok (.aload_n 0, 1) := by decide +kernel
theorem dX12_leafOf_29 : decode cX12_leafOf 29 = .ok (.ldc2_w 135, 3) := by decide +kernel
theorem dX12_leafOf_32 : decode cX12_leafOf 32 = .ok (.invokevirtual 208, 3) := by decide +kernel
theorem dX12_leafOf_35 : decode cX12_leafOf 35 = .ok (.ifCond .eq 7, 3) := by decide +kernel
theorem dX12_leafOf_38 : decode cX12_leafOf 38 = .ok (.iconst 2, 1) := by decide +kernel
theorem dX12_leafOf_39 : decode cX12_leafOf 39 = .ok (.goto 106, 3) := by decide +kernel
theorem dX12_leafOf_42 : decode cX12_leafOf 42 = .ok (.aload_n 0, 1) := by decide +kernel
theorem dX12_leafOf_43 : decode cX12_leafOf 43 = .ok (.ldc2_w 137, 3) := by decide +kernel
theorem dX12_leafOf_46 : decode cX12_leafOf 46 = .ok (.invokevirtual 208, 3) := by decide +kernel
theorem dX12_leafOf_49 : decode cX12_leafOf 49 = .ok (.ifCond .eq 7, 3) := by decide +kernel
theorem dX12_leafOf_52 : decode cX12_leafOf 52 = .ok (.iconst 3, 1) := by decide +kernel
theorem dX12_leafOf_53 : decode cX12_leafOf 53 = .ok (.goto 92, 3) := by decide +kernel
theorem dX12_leafOf_56 : decode cX12_leafOf 56 = .ok (.aload_n 0, 1) := by decide +kernel
theorem dX12_leafOf_57 : decode cX12_leafOf 57 = .ok (.ldc2_w 111, 3) := by decide +kernel
theorem dX12_leafOf_60 : decode cX12_leafOf 60 = .ok (.invokevirtual 208, 3) := by decide +kernel
theorem dX12_leafOf_63 : decode cX12_leafOf 63 = .ok (.ifCond .eq 7, 3) := by decide +kernel
theorem dX12_leafOf_66 : decode cX12_leafOf 66 = .ok (.iconst 4, 1) := by decide +kernel
theorem dX12_leafOf_67 : decode cX12_leafOf 67 = .ok (.goto 78, 3) := by decide +kernel
theorem dX12_leafOf_70 : decode cX12_leafOf 70 = .ok (.aload_n 0, 1) := by decide +kernel
theorem dX12_leafOf_71 : decode cX12_leafOf 71 = .ok (.ldc2_w 113, 3) := by decide +kernel
theorem dX12_leafOf_74 : decode cX12_leafOf 74 = .ok (.invokevirtual 208, 3) := by decide +kernel
theorem dX12_leafOf_77 : decode cX12_leafOf 77 = .ok (.ifCond .eq 7, 3) := by decide +kernel
theorem dX12_leafOf_80 : decode cX12_leafOf 80 = .ok (.iconst 5, 1) := by decide +kernel
theorem dX12_leafOf_81 : decode cX12_leafOf 81 = .ok (.goto 64, 3) := by decide +kernel
theorem dX12_leafOf_84 : decode cX12_leafOf 84 = .ok (.aload_n 0, 1) := by decide +kernel
theorem dX12_leafOf_85 : decode cX12_leafOf 85 = .ok (.ldc2_w 139, 3) := by decide +kernel
theorem dX12_leafOf_88 : decode cX12_leafOf 88 = .ok (.invokevirtual 208, 3) := by decide +kernel
theorem dX12_leafOf_91 : decode cX12_leafOf 91 = .ok (.ifCond .eq 8, 3) := by decide +kernel
theorem dX12_leafOf_94 : decode cX12_leafOf 94 = .ok (.bipush 6, 2) := by decide +kernel
theorem dX12_leafOf_96 : decode cX12_leafOf 96 = .ok (.goto 49, 3) := by decide +kernel
theorem dX12_leafOf_99 : decode cX12_leafOf 99 = .ok (.aload_n 0, 1) := by decide +kernel
theorem dX12_leafOf_100 : decode cX12_leafOf 100 = .ok (.ldc2_w 141, 3) := by decide +kernel
theorem dX12_leafOf_103 : decode cX12_leafOf 103 = .ok (.invokevirtual 208, 3) := by decide +kernel
theorem dX12_leafOf_106 : decode cX12_leafOf 106 = .ok (.ifCond .eq 8, 3) := by decide +kernel
theorem dX12_leafOf_109 : decode cX12_leafOf 109 = .ok (.bipush 7, 2) := by decide +kernel
theorem dX12_leafOf_111 : decode cX12_leafOf 111 = .ok (.goto 34, 3) := by decide +kernel
theorem dX12_leafOf_114 : decode cX12_leafOf 114 = .ok (.aload_n 0, 1) := by decide +kernel
theorem dX12_leafOf_115 : decode cX12_leafOf 115 = .ok (.ldc2_w 143, 3) := by decide +kernel
theorem dX12_leafOf_118 : decode cX12_leafOf 118 = .ok (.invokevirtual 208, 3) := by decide +kernel
theorem dX12_leafOf_121 : decode cX12_leafOf 121 = .ok (.ifCond .eq 8, 3) := by decide +kernel
theorem dX12_leafOf_124 : decode cX12_leafOf 124 = .ok (.bipush 8, 2) := by decide +kernel
theorem dX12_leafOf_126 : decode cX12_leafOf 126 = .ok (.goto 19, 3) := by decide +kernel
theorem dX12_leafOf_129 : decode cX12_leafOf 129 = .ok (.aload_n 0, 1) := by decide +kernel
theorem dX12_leafOf_130 : decode cX12_leafOf 130 = .ok (.ldc2_w 145, 3) := by decide +kernel
theorem dX12_leafOf_133 : decode cX12_leafOf 133 = .ok (.invokevirtual 208, 3) := by decide +kernel
theorem dX12_leafOf_136 : decode cX12_leafOf 136 = .ok (.ifCond .eq 8, 3) := by decide +kernel
theorem dX12_leafOf_139 : decode cX12_leafOf 139 = .ok (.bipush 9, 2) := by decide +kernel
theorem dX12_leafOf_141 : decode cX12_leafOf 141 = .ok (.goto 4, 3) := by decide +kernel
theorem dX12_leafOf_144 : decode cX12_leafOf 144 = .ok (.iconst (-1), 1) := by decide +kernel
theorem dX12_leafOf_145 : decode cX12_leafOf 145 = .ok (.ireturn, 1) := by decide +kernel
theorem dX12_operand_0 : decode cX12_operand 0 = .ok (.aload_n 0, 1) := by decide +kernel
theorem dX12_operand_1 : decode cX12_operand 1 = .ok (.ldc2_w 129, 3) := by decide +kernel
theorem dX12_operand_4 : decode cX12_operand 4 = .ok (.invokevirtual 208, 3) := by decide +kernel
theorem dX12_operand_7 : decode cX12_operand 7 = .ok (.istore_n 1, 1) := by decide +kernel
theorem dX12_operand_8 : decode cX12_operand 8 = .ok (.aload_n 0, 1) := by decide +kernel
theorem dX12_operand_9 : decode cX12_operand 9 = .ok (.bipush 40, 2) := by decide +kernel
theorem dX12_operand_11 : decode cX12_operand 11 = .ok (.invokevirtual 180, 3) := by decide +kernel
theorem dX12_operand_14 : decode cX12_operand 14 = .ok (.istore_n 2, 1) := by decide +kernel
theorem dX12_operand_15 : decode cX12_operand 15 = .ok (.aload_n 0, 1) := by decide +kernel
theorem dX12_operand_16 : decode cX12_operand 16 = .ok (.invokevirtual 416, 3) := by decide +kernel
theorem dX12_operand_19 : decode cX12_operand 19 = .ok (.istore_n 3, 1) := by decide +kernel
theorem dX12_operand_20 : decode cX12_operand 20 = .ok (.iload_n 1, 1) := by decide +kernel
theorem dX12_operand_21 : decode cX12_operand 21 = .ok (.ifCond .ne 17, 3) := by decide +kernel
theorem dX12_operand_24 : decode cX12_operand 24 = .ok (.iload_n 2, 1) := by decide +kernel
theorem dX12_operand_25 : decode cX12_operand 25 = .ok (.ifCond .ne 13, 3) := by decide +kernel
theorem dX12_operand_28 : decode cX12_operand 28 = .ok (.iload_n 3, 1) := by decide +kernel
theorem dX12_operand_29 : decode cX12_operand 29 = .ok (.ifCond .ge 9, 3) := by decide +kernel
theorem dX12_operand_32 : decode cX12_operand 32 = .ok (.aload_n 0, 1) := by decide +kernel
theorem dX12_operand_33 : decode cX12_operand 33 = .ok (.iconst 1, 1) := by decide +kernel
theorem dX12_operand_34 : decode cX12_operand 34 = .ok (.invokevirtual 183, 3) := by decide +kernel
theorem dX12_operand_37 : decode cX12_operand 37 = .ok (.ireturn, 1) := by decide +kernel
theorem dX12_operand_38 : decode cX12_operand 38 = .ok (.aload_n 0, 1) := by decide +kernel
theorem dX12_operand_39 : decode cX12_operand 39 = .ok (.getfield 419, 3) := by decide +kernel
theorem dX12_operand_42 : decode cX12_operand 42 = .ok (.bipush 20, 2) := by decide +kernel
theorem dX12_operand_44 : decode cX12_operand 44 = .ok (.if_icmp .eq 12, 3) := by decide +kernel
theorem dX12_operand_47 : decode cX12_operand 47 = .ok (.aload_n 0, 1) := by decide +kernel
theorem dX12_operand_48 : decode cX12_operand 48 = .ok (.getfield 413, 3) := by decide +kernel
theorem dX12_operand_51 : decode cX12_operand 51 = .ok (.bipush 8, 2) := by decide +kernel
theorem dX12_operand_53 : decode cX12_operand 53 = .ok (.if_icmp .le 9, 3) := by decide +kernel
theorem dX12_operand_56 : decode cX12_operand 56 = .ok (.aload_n 0, 1) := by decide +kernel
theorem dX12_operand_57 : decode cX12_operand 57 = .ok (.iconst 4, 1) := by decide +kernel
theorem dX12_operand_58 : decode cX12_operand 58 = .ok (.invokevirtual 183, 3) := by decide +kernel
theorem dX12_operand_61 : decode cX12_operand 61 = .ok (.ireturn, 1) := by decide +kernel
theorem dX12_operand_62 : decode cX12_operand 62 = .ok (.aload_n 0, 1) := by decide +kernel
theorem dX12_operand_63 : decode cX12_operand 63 = .ok (.dup, 1) := by decide +kernel
theorem dX12_operand_64 : decode cX12_operand 64 = .ok (.getfield 419, 3) := by decide +kernel
theorem dX12_operand_67 : decode cX12_operand 67 = .ok (.iconst 1, 1) := by decide +kernel
theorem dX12_operand_68 : decode cX12_operand 68 = .ok (.iadd, 1) := by decide +kernel
theorem dX12_operand_69 : decode cX12_operand 69 = .ok (.putfield 419, 3) := by decide +kernel
theorem dX12_operand_72 : decode cX12_operand 72 = .ok (.aload_n 0, 1) := by decide +kernel
theorem dX12_operand_73 : decode cX12_operand 73 = .ok (.invokevirtual 186, 3) := by decide +kernel
theorem dX12_operand_76 : decode cX12_operand 76 = .ok (.iload_n 1, 1) := by decide +kernel
theorem dX12_operand_77 : decode cX12_operand 77 = .ok (.ifCond .ne 7, 3) := by decide +kernel
theorem dX12_operand_80 : decode cX12_operand 80 = .ok (.iload_n 2, 1) := by decide +kernel
theorem dX12_operand_81 : decode cX12_operand 81 = .ok (.ifCond .eq 45, 3) := by decide +kernel
theorem dX12_operand_84 : decode cX12_operand 84 = .ok (.aload_n 0, 1) := by decide +kernel
theorem dX12_operand_85 : decode cX12_operand 85 = .ok (.getfield 84, 3) := by decide +kernel
theorem dX12_operand_88 : decode cX12_operand 88 = .ok (.aload_n 0, 1) := by decide +kernel
theorem dX12_operand_89 : decode cX12_operand 89 = .ok (.getfield 407, 3) := by decide +kernel
theorem dX12_operand_92 : decode cX12_operand 92 = .ok (.iload_n 1, 1) := by decide +kernel
theorem dX12_operand_93 : decode cX12_operand 93 = .ok (.ifCond .eq 8, 3) := by decide +kernel
theorem dX12_operand_96 : decode cX12_operand 96 = .ok (.bipush 20, 2) := by decide +kernel
theorem dX12_operand_98 : decode cX12_operand 98 = .ok (.goto 5, 3) := by decide +kernel
theorem dX12_operand_101 : decode cX12_operand 101 = .ok (.bipush 23, 2) := by decide +kernel
theorem dX12_operand_103 : decode cX12_operand 103 = .ok (.iastore, 1) := by decide +kernel
theorem dX12_operand_104 : decode cX12_operand 104 = .ok (.aload_n 0, 1) := by decide +kernel
theorem dX12_operand_105 : decode cX12_operand 105 = .ok (.dup, 1) := by decide +kernel
theorem dX12_operand_106 : decode cX12_operand 106 = .ok (.getfield 407, 3) := by decide +kernel
theorem dX12_operand_109 : decode cX12_operand 109 = .ok (.iconst 1, 1) := by decide +kernel
theorem dX12_operand_110 : decode cX12_operand 110 = .ok (.iadd, 1) := by decide +kernel
theorem dX12_operand_111 : decode cX12_operand 111 = .ok (.putfield 407, 3) := by decide +kernel
theorem dX12_operand_114 : decode cX12_operand 114 = .ok (.aload_n 0, 1) := by decide +kernel
theorem dX12_operand_115 : decode cX12_operand 115 = .ok (.dup, 1) := by decide +kernel
theorem dX12_operand_116 : decode cX12_operand 116 = .ok (.getfield 413, 3) := by decide +kernel
theorem dX12_operand_119 : decode cX12_operand 119 = .ok (.iconst 1, 1) := by decide +kernel
theorem dX12_operand_120 : decode cX12_operand 120 = .ok (.iadd, 1) := by decide +kernel
theorem dX12_operand_121 : decode cX12_operand 121 = .ok (.putfield 413, 3) := by decide +kernel
theorem dX12_operand_124 : decode cX12_operand 124 = .ok (.iconst 1, 1) := by decide +kernel
theorem dX12_operand_125 : decode cX12_operand 125 = .ok (.ireturn, 1) := by decide +kernel
theorem dX12_operand_126 : decode cX12_operand 126 = .ok (.aload_n 0, 1) := by decide +kernel
theorem dX12_operand_127 : decode cX12_operand 127 = .ok (.iconst 1, 1) := by decide +kernel
theorem dX12_operand_128 : decode cX12_operand 128 = .ok (.putfield 422, 3) := by decide +kernel
theorem dX12_operand_131 : decode cX12_operand 131 = .ok (.iload_n 3, 1) := by decide +kernel
theorem dX12_operand_132 : decode cX12_operand 132 = .ok (.iconst 3, 1) := by decide +kernel
theorem dX12_operand_133 : decode cX12_operand 133 = .ok (.if_icmp .ge 12, 3) := by decide +kernel
theorem dX12_operand_136 : decode cX12_operand 136 = .ok (.aload_n 0, 1) := by decide +kernel
theorem dX12_operand_137 : decode cX12_operand 137 = .ok (.iload_n 3, 1) := by decide +kernel
theorem dX12_operand_138 : decode cX12_operand 138 = .ok (.iconst 0, 1) := by decide +kernel
theorem dX12_operand_139 : decode cX12_operand 139 = .ok (.iconst 0, 1) := by decide +kernel
theorem dX12_operand_140 : decode cX12_operand 140 = .ok (.invokevirtual 410, 3) := by decide +kernel
theorem dX12_operand_143 : decode cX12_operand 143 = .ok (.iconst 1, 1) := by decide +kernel
theorem dX12_operand_144 : decode cX12_operand 144 = .ok (.ireturn, 1) := by decide +kernel
theorem dX12_operand_145 : decode cX12_operand 145 = .ok (.iload_n 3, 1) := by decide +kernel
theorem dX12_operand_146 : decode cX12_operand 146 = .ok (.bipush 6, 2) := by decide +kernel
theorem dX12_operand_148 : decode cX12_operand 148 = .ok (.if_icmp .ge 74, 3) := by decide +kernel
theorem dX12_operand_151 : decode cX12_operand 151 = .ok (.aload_n 0, 1) := by decide +kernel
theorem dX12_operand_152 : decode cX12_operand 152 = .ok (.invokevirtual 196, 3) := by decide +kernel
theorem dX12_operand_155 : decode cX12_operand 155 = .ok (.ifCond .ne 9, 3) := by decide +kernel
theorem dX12_operand_158 : decode cX12_operand 158 = .ok (.aload_n 0, 1) := by decide +kernel
theorem dX12_operand_159 : decode cX12_operand 159 = .ok (.iconst 1, 1) := by decide +kernel
theorem dX12_operand_160 : decode cX12_operand 160 = .ok (.invokevirtual 183, 3) := by decide +kernel
theorem dX12_operand_163 : decode cX12_operand 163 = .ok (.ireturn, 1) := by decide +kernel
theorem dX12_operand_164 : decode cX12_operand 164 = .ok (.iload_n 3, 1) := by decide +kernel
theorem dX12_operand_165 : decode cX12_operand 165 = .ok (.iconst 3, 1) := by decide +kernel
theorem dX12_operand_166 : decode cX12_operand 166 = .ok (.if_icmp .ne 18, 3) := by decide +kernel
theorem dX12_operand_169 : decode cX12_operand 169 = .ok (.aload_n 0, 1) := by decide +kernel
theorem dX12_operand_170 : decode cX12_operand 170 = .ok (.bipush 9, 2) := by decide +kernel
theorem dX12_operand_172 : decode cX12_operand 172 = .ok (.aload_n 0, 1) := by decide +kernel
theorem dX12_operand_173 : decode cX12_operand 173 = .ok (.getfield 33, 3) := by decide +kernel
theorem dX12_operand_176 : decode cX12_operand 176 = .ok (.iconst 1, 1) := by decide +kernel
theorem dX12_operand_177 : decode cX12_operand 177 = .ok (.iaload, 1) := by decide +kernel
theorem dX12_operand_178 : decode cX12_operand 178 = .ok (.invokevirtual 200, 3) := by decide +kernel
theorem dX12_operand_181 : decode cX12_operand 181 = .ok (.goto 14, 3) := by decide +kernel
theorem dX12_operand_184 : decode cX12_operand 184 = .ok (.aload_n 0, 1) := by decide +kernel
theorem dX12_operand_185 : decode cX12_operand 185 = .ok (.iconst 0, 1) := by decide +kernel
theorem dX12_operand_186 : decode cX12_operand 186 = .ok (.aload_n 0, 1) := by decide +kernel
theorem dX12_operand_187 : decode cX12_operand 187 = .ok (.getfield 33, 3) := by decide +kernel
theorem dX12_operand_190 : decode cX12_operand 190 = .ok (.iconst 0, 1) := by decide +kernel
theorem dX12_operand_191 : decode cX12_operand 191 = .ok (.iaload, 1) := by decide +kernel
theorem dX12_operand_192 : decode cX12_operand 192 = .ok (.invokevirtual 200, 3) := by decide +kernel
theorem dX12_operand_195 : decode cX12_operand 195 = .ok (.istore 4, 2) := by decide +kernel
theorem dX12_operand_197 : decode cX12_operand 197 = .ok (.iload 4, 2) := by decide +kernel
theorem dX12_operand_199 : decode cX12_operand 199 = .ok (.ifCond .ge 9, 3) := by decide +kernel
theorem dX12_operand_202 : decode cX12_operand 202 = .ok (.aload_n 0, 1) := by decide +kernel
theorem dX12_operand_203 : decode cX12_operand 203 = .ok (.iconst 3, 1) := by decide +kernel
theorem dX12_operand_204 : decode cX12_operand 204 = .ok (.invokevirtual 183, 3) := by decide +kernel
theorem dX12_operand_207 : decode cX12_operand 207 = .ok (.ireturn, 1) := by decide +kernel
theorem dX12_operand_208 : decode cX12_operand 208 = .ok (.aload_n 0, 1) := by decide +kernel
theorem dX12_operand_209 : decode cX12_operand 209 = .ok (.iload_n 3, 1) := by decide +kernel
theorem dX12_operand_210 : decode cX12_operand 210 = .ok (.iconst 0, 1) := by decide +kernel
theorem dX12_operand_211 : decode cX12_operand 211 = .ok (.iload 4, 2) := by decide +kernel
theorem dX12_operand_213 : decode cX12_operand 213 = .ok (.invokevirtual 410, 3) := by decide +kernel
theorem dX12_operand_216 : decode cX12_operand 216 = .ok (.aload_n 0, 1) := by decide +kernel
theorem dX12_operand_217 : decode cX12_operand 217 = .ok (.invokevirtual 186, 3) := by decide +kernel
theorem dX12_operand_220 : decode cX12_operand 220 = .ok (.iconst 1, 1) := by decide +kernel
theorem dX12_operand_221 : decode cX12_operand 221 = .ok (.ireturn, 1) := by decide +kernel
theorem dX12_operand_222 : decode cX12_operand 222 = .ok (.aload_n 0, 1) := by decide +kernel
theorem dX12_operand_223 : decode cX12_operand 223 = .ok (.getfield 157, 3) := by decide +kernel
theorem dX12_operand_226 : decode cX12_operand 226 = .ok (.iconst 3, 1) := by decide +kernel
theorem dX12_operand_227 : decode cX12_operand 227 = .ok (.if_icmp .ne 21, 3) := by decide +kernel
theorem dX12_operand_230 : decode cX12_operand 230 = .ok (.aload_n 0, 1) := by decide +kernel
theorem dX12_operand_231 : decode cX12_operand 231 = .ok (.getfield 167, 3) := by decide +kernel
theorem dX12_operand_234 : decode cX12_operand 234 = .ok (.bipush 60, 2) := by decide +kernel
theorem dX12_operand_236 : decode cX12_operand 236 = .ok (.if_icmp .lt 12, 3) := by decide +kernel
theorem dX12_operand_239 : decode cX12_operand 239 = .ok (.aload_n 0, 1) := by decide +kernel
theorem dX12_operand_240 : decode cX12_operand 240 = .ok (.getfield 167, 3) := by decide +kernel
theorem dX12_operand_243 : decode cX12_operand 243 = .ok (.bipush 62, 2) := by decide +kernel
theorem dX12_operand_245 : decode cX12_operand 245 = .ok (.if_icmp .le 9, 3) := by decide +kernel
theorem dX12_operand_248 : decode cX12_operand 248 = .ok (.aload_n 0, 1) := by decide +kernel
theorem dX12_operand_249 : decode cX12_operand 249 = .ok (.iconst 1, 1) := by decide +kernel
theorem dX12_operand_250 : decode cX12_operand 250 = .ok (.invokevirtual 183, 3) := by decide +kernel
theorem dX12_operand_253 : decode cX12_operand 253 = .ok (.ireturn, 1) := by decide +kernel
theorem dX12_operand_254 : decode cX12_operand 254 = .ok (.aload_n 0, 1) := by decide +kernel
theorem dX12_operand_255 : decode cX12_operand 255 = .ok (.getfield 167, 3) := by decide +kernel
theorem dX12_operand_258 : decode cX12_operand 258 = .ok (.istore 4, 2) := by decide +kernel
theorem dX12_operand_260 : decode cX12_operand 260 = .ok (.aload_n 0, 1) := by decide +kernel
theorem dX12_operand_261 : decode cX12_operand 261 = .ok (.invokevirtual 186, 3) := by decide +kernel
theorem dX12_operand_264 : decode cX12_operand 264 = .ok (.aload_n 0, 1) := by decide +kernel
theorem dX12_operand_265 : decode cX12_operand 265 = .ok (.getfield 157, 3) := by decide +kernel
theorem dX12_operand_268 : decode cX12_operand 268 = .ok (.iconst 2, 1) := by decide +kernel
theorem dX12_operand_269 : decode cX12_operand 269 = .ok (.if_icmp .eq 9, 3) := by decide +kernel
theorem dX12_operand_272 : decode cX12_operand 272 = .ok (.aload_n 0, 1) := by decide +kernel
theorem dX12_operand_273 : decode cX12_operand 273 = .ok (.iconst 1, 1) := by decide +kernel
theorem dX12_operand_274 : decode cX12_operand 274 = .ok (.invokevirtual 183, 3) := by decide +kernel
theorem dX12_operand_277 : decode cX12_operand 277 = .ok (.ireturn, 1) := by decide +kernel
theorem dX12_operand_278 : decode cX12_operand 278 = .ok (.aload_n 0, 1) := by decide +kernel
theorem dX12_operand_279 : decode cX12_operand 279 = .ok (.iload_n 3, 1) := by decide +kernel
theorem dX12_operand_280 : decode cX12_operand 280 = .ok (.iload 4, 2) := by decide +kernel
theorem dX12_operand_282 : decode cX12_operand 282 = .ok (.aload_n 0, 1) := by decide +kernel
theorem dX12_operand_283 : decode cX12_operand 283 = .ok (.getfield 167, 3) := by decide +kernel
theorem dX12_operand_286 : decode cX12_operand 286 = .ok (.invokevirtual 410, 3) := by decide +kernel
theorem dX12_operand_289 : decode cX12_operand 289 = .ok (.aload_n 0, 1) := by decide +kernel
theorem dX12_operand_290 : decode cX12_operand 290 = .ok (.invokevirtual 186, 3) := by decide +kernel
theorem dX12_operand_293 : decode cX12_operand 293 = .ok (.iconst 1, 1) := by decide +kernel
theorem dX12_operand_294 : decode cX12_operand 294 = .ok (.ireturn, 1) := by decide +kernel
theorem dX12_behind_0 : decode cX12_behind 0 = .ok (.aload_n 0, 1) := by decide +kernel
theorem dX12_behind_1 : decode cX12_behind 1 = .ok (.invokevirtual 425, 3) := by decide +kernel
theorem dX12_behind_4 : decode cX12_behind 4 = .ok (.aload_n 0, 1) := by decide +kernel
theorem dX12_behind_5 : decode cX12_behind 5 = .ok (.ldc2_w 127, 3) := by decide +kernel
theorem dX12_behind_8 : decode cX12_behind 8 = .ok (.invokevirtual 208, 3) := by decide +kernel
theorem dX12_behind_11 : decode cX12_behind 11 = .ok (.ifCond .ne 13, 3) := by decide +kernel
theorem dX12_behind_14 : decode cX12_behind 14 = .ok (.aload_n 0, 1) := by decide +kernel
theorem dX12_behind_15 : decode cX12_behind 15 = .ok (.ldc2_w 125, 3) := by decide +kernel
theorem dX12_behind_18 : decode cX12_behind 18 = .ok (.invokevirtual 208, 3) := by decide +kernel
theorem dX12_behind_21 : decode cX12_behind 21 = .ok (.ifCond .eq 71, 3) := by decide +kernel
theorem dX12_behind_24 : decode cX12_behind 24 = .ok (.aload_n 0, 1) := by decide +kernel
theorem dX12_behind_25 : decode cX12_behind 25 = .ok (.aload_n 0, 1) := by decide +kernel
theorem dX12_behind_26 : decode cX12_behind 26 = .ok (.ldc2_w 127, 3) := by decide +kernel
theorem dX12_behind_29 : decode cX12_behind 29 = .ok (.invokevirtual 208, 3) := by decide +kernel
theorem dX12_behind_32 : decode cX12_behind 32 = .ok (.ifCond .eq 8, 3) := by decide +kernel
theorem dX12_behind_35 : decode cX12_behind 35 = .ok (.bipush 21, 2) := by decide +kernel
theorem dX12_behind_37 : decode cX12_behind 37 = .ok (.goto 5, 3) := by decide +kernel
theorem dX12_behind_40 : decode cX12_behind 40 = .ok (.bipush 22, 2) := by decide +kernel
theorem dX12_behind_42 : decode cX12_behind 42 = .ok (.invokevirtual 428, 3) := by decide +kernel
theorem dX12_behind_45 : decode cX12_behind 45 = .ok (.aload_n 0, 1) := by decide +kernel
theorem dX12_behind_46 : decode cX12_behind 46 = .ok (.getfield 84, 3) := by decide +kernel
theorem dX12_behind_49 : decode cX12_behind 49 = .ok (.aload_n 0, 1) := by decide +kernel
theorem dX12_behind_50 : decode cX12_behind 50 = .ok (.getfield 407, 3) := by decide +kernel
theorem dX12_behind_53 : decode cX12_behind 53 = .ok (.aload_n 0, 1) := by decide +kernel
theorem dX12_behind_54 : decode cX12_behind 54 = .ok (.ldc2_w 127, 3) := by decide +kernel
theorem dX12_behind_57 : decode cX12_behind 57 = .ok (.invokevirtual 208, 3) := by decide +kernel
theorem dX12_behind_60 : decode cX12_behind 60 = .ok (.ifCond .eq 8, 3) := by decide +kernel
theorem dX12_behind_63 : decode cX12_behind 63 = .ok (.bipush 21, 2) := by decide +kernel
theorem dX12_behind_65 : decode cX12_behind 65 = .ok (.goto 5, 3) := by decide +kernel
theorem dX12_behind_68 : decode cX12_behind 68 = .ok (.bipush 22, 2) := by decide +kernel
theorem dX12_behind_70 : decode cX12_behind 70 = .ok (.iastore, 1) := by decide +kernel
theorem dX12_behind_71 : decode cX12_behind 71 = .ok (.aload_n 0, 1) := by decide +kernel
theorem dX12_behind_72 : decode cX12_behind 72 = .ok (.dup, 1) := by decide +kernel
theorem dX12_behind_73 : decode cX12_behind 73 = .ok (.getfield 407, 3) := by decide +kernel
theorem dX12_behind_76 : decode cX12_behind 76 = .ok (.iconst 1, 1) := by decide +kernel
theorem dX12_behind_77 : decode cX12_behind 77 = .ok (.iadd, 1) := by decide +kernel
theorem dX12_behind_78 : decode cX12_behind 78 = .ok (.putfield 407, 3) := by decide +kernel
theorem dX12_behind_81 : decode cX12_behind 81 = .ok (.aload_n 0, 1) := by decide +kernel
theorem dX12_behind_82 : decode cX12_behind 82 = .ok (.iconst 0, 1) := by decide +kernel
theorem dX12_behind_83 : decode cX12_behind 83 = .ok (.putfield 422, 3) := by decide +kernel
theorem dX12_behind_86 : decode cX12_behind 86 = .ok (.aload_n 0, 1) := by decide +kernel
theorem dX12_behind_87 : decode cX12_behind 87 = .ok (.invokevirtual 186, 3) := by decide +kernel
theorem dX12_behind_90 : decode cX12_behind 90 = .ok (.iconst 1, 1) := by decide +kernel
theorem dX12_behind_91 : decode cX12_behind 91 = .ok (.ireturn, 1) := by decide +kernel
theorem dX12_behind_92 : decode cX12_behind 92 = .ok (.aload_n 0, 1) := by decide +kernel
theorem dX12_behind_93 : decode cX12_behind 93 = .ok (.bipush 22, 2) := by decide +kernel
theorem dX12_behind_95 : decode cX12_behind 95 = .ok (.invokevirtual 428, 3) := by decide +kernel
theorem dX12_behind_98 : decode cX12_behind 98 = .ok (.aload_n 0, 1) := by decide +kernel
theorem dX12_behind_99 : decode cX12_behind 99 = .ok (.bipush 41, 2) := by decide +kernel
theorem dX12_behind_101 : decode cX12_behind 101 = .ok (.invokevirtual 180, 3) := by decide +kernel
theorem dX12_behind_104 : decode cX12_behind 104 = .ok (.ifCond .eq 10, 3) := by decide +kernel
theorem dX12_behind_107 : decode cX12_behind 107 = .ok (.aload_n 0, 1) := by decide +kernel
theorem dX12_behind_108 : decode cX12_behind 108 = .ok (.getfield 407, 3) := by decide +kernel
theorem dX12_behind_111 : decode cX12_behind 111 = .ok (.ifCond .ne 9, 3) := by decide +kernel
theorem dX12_behind_114 : decode cX12_behind 114 = .ok (.aload_n 0, 1) := by decide +kernel
theorem dX12_behind_115 : decode cX12_behind 115 = .ok (.iconst 1, 1) := by decide +kernel
theorem dX12_behind_116 : decode cX12_behind 116 = .ok (.invokevirtual 183, 3) := by decide +kernel
theorem dX12_behind_119 : decode cX12_behind 119 = .ok (.ireturn, 1) := by decide +kernel
theorem dX12_behind_120 : decode cX12_behind 120 = .ok (.aload_n 0, 1) := by decide +kernel
theorem dX12_behind_121 : decode cX12_behind 121 = .ok (.dup, 1) := by decide +kernel
theorem dX12_behind_122 : decode cX12_behind 122 = .ok (.getfield 407, 3) := by decide +kernel
theorem dX12_behind_125 : decode cX12_behind 125 = .ok (.iconst 1, 1) := by decide +kernel
theorem dX12_behind_126 : decode cX12_behind 126 = .ok (.isub, 1) := by decide +kernel
theorem dX12_behind_127 : decode cX12_behind 127 = .ok (.putfield 407, 3) := by decide +kernel
theorem dX12_behind_130 : decode cX12_behind 130 = .ok (.aload_n 0, 1) := by decide +kernel
theorem dX12_behind_131 : decode cX12_behind 131 = .ok (.dup, 1) := by decide +kernel
theorem dX12_behind_132 : decode cX12_behind 132 = .ok (.getfield 413, 3) := by decide +kernel
theorem dX12_behind_135 : decode cX12_behind 135 = .ok (.iconst 1, 1) := by decide +kernel
theorem dX12_behind_136 : decode cX12_behind 136 = .ok (.isub, 1) := by decide +kernel
theorem dX12_behind_137 : decode cX12_behind 137 = .ok (.putfield 413, 3) := by decide +kernel
theorem dX12_behind_140 : decode cX12_behind 140 = .ok (.aload_n 0, 1) := by decide +kernel
theorem dX12_behind_141 : decode cX12_behind 141 = .ok (.invokevirtual 186, 3) := by decide +kernel
theorem dX12_behind_144 : decode cX12_behind 144 = .ok (.iconst 1, 1) := by decide +kernel
theorem dX12_behind_145 : decode cX12_behind 145 = .ok (.ireturn, 1) := by decide +kernel
theorem dX12_sentence_0 : decode cX12_sentence 0 = .ok (.aload_n 0, 1) := by decide +kernel
theorem dX12_sentence_1 : decode cX12_sentence 1 = .ok (.iconst 0, 1) := by decide +kernel
theorem dX12_sentence_2 : decode cX12_sentence 2 = .ok (.putfield 1, 3) := by decide +kernel
theorem dX12_sentence_5 : decode cX12_sentence 5 = .ok (.aload_n 0, 1) := by decide +kernel
theorem dX12_sentence_6 : decode cX12_sentence 6 = .ok (.sipush 200, 3) := by decide +kernel
theorem dX12_sentence_9 : decode cX12_sentence 9 = .ok (.invokevirtual 237, 3) := by decide +kernel
theorem dX12_sentence_12 : decode cX12_sentence 12 = .ok (.aload_n 0, 1) := by decide +kernel
theorem dX12_sentence_13 : decode cX12_sentence 13 = .ok (.iconst 0, 1) := by decide +kernel
theorem dX12_sentence_14 : decode cX12_sentence 14 = .ok (.putfield 174, 3) := by decide +kernel
theorem dX12_sentence_17 : decode cX12_sentence 17 = .ok (.aload_n 0, 1) := by decide +kernel
theorem dX12_sentence_18 : decode cX12_sentence 18 = .ok (.iconst 0, 1) := by decide +kernel
theorem dX12_sentence_19 : decode cX12_sentence 19 = .ok (.putfield 404, 3) := by decide +kernel
theorem dX12_sentence_22 : decode cX12_sentence 22 = .ok (.aload_n 0, 1) := by decide +kernel
theorem dX12_sentence_23 : decode cX12_sentence 23 = .ok (.iconst 0, 1) := by decide +kernel
theorem dX12_sentence_24 : decode cX12_sentence 24 = .ok (.putfield 419, 3) := by decide +kernel
theorem dX12_sentence_27 : decode cX12_sentence 27 = .ok (.aload_n 0, 1) := by decide +kernel
theorem dX12_sentence_28 : decode cX12_sentence 28 = .ok (.iconst 0, 1) := by decide +kernel
theorem dX12_sentence_29 : decode cX12_sentence 29 = .ok (.putfield 407, 3) := by decide +kernel
theorem dX12_sentence_32 : decode cX12_sentence 32 = .ok (.aload_n 0, 1) := by decide +kernel
theorem dX12_sentence_33 : decode cX12_sentence 33 = .ok (.iconst 1, 1) := by decide +kernel
theorem dX12_sentence_34 : decode cX12_sentence 34 = .ok (.putfield 413, 3) := by decide +kernel
theorem dX12_sentence_37 : decode cX12_sentence 37 = .ok (.aload_n 0, 1) := by decide +kernel
theorem dX12_sentence_38 : decode cX12_sentence 38 = .ok (.iconst 0, 1) := by decide +kernel
theorem dX12_sentence_39 : decode cX12_sentence 39 = .ok (.putfield 422, 3) := by decide +kernel
theorem dX12_sentence_42 : decode cX12_sentence 42 = .ok (.aload_n 0, 1) := by decide +kernel
theorem dX12_sentence_43 : decode cX12_sentence 43 = .ok (.invokevirtual 186, 3) := by decide +kernel
theorem dX12_sentence_46 : decode cX12_sentence 46 = .ok (.iconst 1, 1) := by decide +kernel
theorem dX12_sentence_47 : decode cX12_sentence 47 = .ok (.istore_n 1, 1) := by decide +kernel
theorem dX12_sentence_48 : decode cX12_sentence 48 = .ok (.iload_n 1, 1) := by decide +kernel
theorem dX12_sentence_49 : decode cX12_sentence 49 = .ok (.ifCond .eq 83, 3) := by decide +kernel
theorem dX12_sentence_52 : decode cX12_sentence 52 = .ok (.aload_n 0, 1) := by decide +kernel
theorem dX12_sentence_53 : decode cX12_sentence 53 = .ok (.getfield 422, 3) := by decide +kernel
theorem dX12_sentence_56 : decode cX12_sentence 56 = .ok (.ifCond .eq 45, 3) := by decide +kernel
theorem dX12_sentence_59 : decode cX12_sentence 59 = .ok (.aload_n 0, 1) := by decide +kernel
theorem dX12_sentence_60 : decode cX12_sentence 60 = .ok (.getfield 157, 3) := by decide +kernel
theorem dX12_sentence_63 : decode cX12_sentence 63 = .ok (.ifCond .ne 38, 3) := by decide +kernel
theorem dX12_sentence_66 : decode cX12_sentence 66 = .ok (.aload_n 0, 1) := by decide +kernel
theorem dX12_sentence_67 : decode cX12_sentence 67 = .ok (.invokevirtual 425, 3) := by decide +kernel
theorem dX12_sentence_70 : decode cX12_sentence 70 = .ok (.aload_n 0, 1) := by decide +kernel
theorem dX12_sentence_71 : decode cX12_sentence 71 = .ok (.bipush 22, 2) := by decide +kernel
theorem dX12_sentence_73 : decode cX12_sentence 73 = .ok (.invokevirtual 428, 3) := by decide +kernel
theorem dX12_sentence_76 : decode cX12_sentence 76 = .ok (.aload_n 0, 1) := by decide +kernel
theorem dX12_sentence_77 : decode cX12_sentence 77 = .ok (.getfield 407, 3) := by decide +kernel
theorem dX12_sentence_80 : decode cX12_sentence 80 = .ok (.ifCond .le 16, 3) := by decide +kernel
theorem dX12_sentence_83 : decode cX12_sentence 83 = .ok (.aload_n 0, 1) := by decide +kernel
theorem dX12_sentence_84 : decode cX12_sentence 84 = .ok (.iconst 1, 1) := by decide +kernel
theorem dX12_sentence_85 : decode cX12_sentence 85 = .ok (.invokevirtual 183, 3) := by decide +kernel
theorem dX12_sentence_88 : decode cX12_sentence 88 = .ok (.pop, 1) := by decide +kernel
theorem dX12_sentence_89 : decode cX12_sentence 89 = .ok (.iconst (-1), 1) := by decide +kernel
theorem dX12_sentence_90 : decode cX12_sentence 90 = .ok (.aload_n 0, 1) := by decide +kernel
theorem dX12_sentence_91 : decode cX12_sentence 91 = .ok (.getfield 177, 3) := by decide +kernel
theorem dX12_sentence_94 : decode cX12_sentence 94 = .ok (.isub, 1) := by decide +kernel
theorem dX12_sentence_95 : decode cX12_sentence 95 = .ok (.ireturn, 1) := by decide +kernel
theorem dX12_sentence_96 : decode cX12_sentence 96 = .ok (.iconst 0, 1) := by decide +kernel
theorem dX12_sentence_97 : decode cX12_sentence 97 = .ok (.istore_n 1, 1) := by decide +kernel
theorem dX12_sentence_98 : decode cX12_sentence 98 = .ok (.goto (-50), 3) := by decide +kernel
theorem dX12_sentence_101 : decode cX12_sentence 101 = .ok (.aload_n 0, 1) := by decide +kernel
theorem dX12_sentence_102 : decode cX12_sentence 102 = .ok (.getfield 422, 3) := by decide +kernel
theorem dX12_sentence_105 : decode cX12_sentence 105 = .ok (.ifCond .eq 13, 3) := by decide +kernel
theorem dX12_sentence_108 : decode cX12_sentence 108 = .ok (.aload_n 0, 1) := by decide +kernel
theorem dX12_sentence_109 : decode cX12_sentence 109 = .ok (.invokevirtual 431, 3) := by decide +kernel
theorem dX12_sentence_112 : decode cX12_sentence 112 = .ok (.ifCond .ne (-64), 3) := by decide +kernel
theorem dX12_sentence_115 : decode cX12_sentence 115 = .ok (.goto 10, 3) := by decide +kernel
theorem dX12_sentence_118 : decode cX12_sentence 118 = .ok (.aload_n 0, 1) := by decide +kernel
theorem dX12_sentence_119 : decode cX12_sentence 119 = .ok (.invokevirtual 434, 3) := by decide +kernel
theorem dX12_sentence_122 : decode cX12_sentence 122 = .ok (.ifCond .ne (-74), 3) := by decide +kernel
theorem dX12_sentence_125 : decode cX12_sentence 125 = .ok (.iconst (-1), 1) := by decide +kernel
theorem dX12_sentence_126 : decode cX12_sentence 126 = .ok (.aload_n 0, 1) := by decide +kernel
theorem dX12_sentence_127 : decode cX12_sentence 127 = .ok (.getfield 177, 3) := by decide +kernel
theorem dX12_sentence_130 : decode cX12_sentence 130 = .ok (.isub, 1) := by decide +kernel
theorem dX12_sentence_131 : decode cX12_sentence 131 = .ok (.ireturn, 1) := by decide +kernel
theorem dX12_sentence_132 : decode cX12_sentence 132 = .ok (.aload_n 0, 1) := by decide +kernel
theorem dX12_sentence_133 : decode cX12_sentence 133 = .ok (.getfield 33, 3) := by decide +kernel
theorem dX12_sentence_136 : decode cX12_sentence 136 = .ok (.sipush 332, 3) := by decide +kernel
theorem dX12_sentence_139 : decode cX12_sentence 139 = .ok (.aload_n 0, 1) := by decide +kernel
theorem dX12_sentence_140 : decode cX12_sentence 140 = .ok (.getfield 404, 3) := by decide +kernel
theorem dX12_sentence_143 : decode cX12_sentence 143 = .ok (.iastore, 1) := by decide +kernel
theorem dX12_sentence_144 : decode cX12_sentence 144 = .ok (.iconst 0, 1) := by decide +kernel
theorem dX12_sentence_145 : decode cX12_sentence 145 = .ok (.istore_n 2, 1) := by decide +kernel
theorem dX12_sentence_146 : decode cX12_sentence 146 = .ok (.iload_n 2, 1) := by decide +kernel
theorem dX12_sentence_147 : decode cX12_sentence 147 = .ok (.iconst 3, 1) := by decide +kernel
theorem dX12_sentence_148 : decode cX12_sentence 148 = .ok (.aload_n 0, 1) := by decide +kernel
theorem dX12_sentence_149 : decode cX12_sentence 149 = .ok (.getfield 404, 3) := by decide +kernel
theorem dX12_sentence_152 : decode cX12_sentence 152 = .ok (.imul, 1) := by decide +kernel
theorem dX12_sentence_153 : decode cX12_sentence 153 = .ok (.if_icmp .ge 25, 3) := by decide +kernel
theorem dX12_sentence_156 : decode cX12_sentence 156 = .ok (.aload_n 0, 1) := by decide +kernel
theorem dX12_sentence_157 : decode cX12_sentence 157 = .ok (.getfield 33, 3) := by decide +kernel
theorem dX12_sentence_160 : decode cX12_sentence 160 = .ok (.sipush 333, 3) := by decide +kernel
theorem dX12_sentence_163 : decode cX12_sentence 163 = .ok (.iload_n 2, 1) := by decide +kernel
theorem dX12_sentence_164 : decode cX12_sentence 164 = .ok (.iadd, 1) := by decide +kernel
theorem dX12_sentence_165 : decode cX12_sentence 165 = .ok (.aload_n 0, 1) := by decide +kernel
theorem dX12_sentence_166 : decode cX12_sentence 166 = .ok (.getfield 40, 3) := by decide +kernel
theorem dX12_sentence_169 : decode cX12_sentence 169 = .ok (.iload_n 2, 1) := by decide +kernel
theorem dX12_sentence_170 : decode cX12_sentence 170 = .ok (.iaload, 1) := by decide +kernel
theorem dX12_sentence_171 : decode cX12_sentence 171 = .ok (.iastore, 1) := by decide +kernel
theorem dX12_sentence_172 : decode cX12_sentence 172 = .ok (.iinc 2 1, 3) := by decide +kernel
theorem dX12_sentence_175 : decode cX12_sentence 175 = .ok (.goto (-29), 3) := by decide +kernel
theorem dX12_sentence_178 : decode cX12_sentence 178 = .ok (.aload_n 0, 1) := by decide +kernel
theorem dX12_sentence_179 : decode cX12_sentence 179 = .ok (.getfield 419, 3) := by decide +kernel
theorem dX12_sentence_182 : decode cX12_sentence 182 = .ok (.ireturn, 1) := by decide +kernel
theorem dX12_isLeaf_0 : decode cX12_isLeaf 0 = .ok (.iload_n 2, 1) := by decide +kernel
theorem dX12_isLeaf_1 : decode cX12_isLeaf 1 = .ok (.tableswitch 132 0 5 #[39, 54, 67, 80, 100, 116], 39) := by decide +kernel
theorem dX12_isLeaf_40 : decode cX12_isLeaf 40 = .ok (.aload_n 0, 1) := by decide +kernel
theorem dX12_isLeaf_41 : decode cX12_isLeaf 41 = .ok (.iload_n 1, 1) := by decide +kernel
theorem dX12_isLeaf_42 : decode cX12_isLeaf 42 = .ok (.invokevirtual 259, 3) := by decide +kernel
theorem dX12_isLeaf_45 : decode cX12_isLeaf 45 = .ok (.iconst 1, 1) := by decide +kernel
theorem dX12_isLeaf_46 : decode cX12_isLeaf 46 = .ok (.if_icmp .ne 7, 3) := by decide +kernel
theorem dX12_isLeaf_49 : decode cX12_isLeaf 49 = .ok (.iconst 1, 1) := by decide +kernel
theorem dX12_isLeaf_50 : decode cX12_isLeaf 50 = .ok (.goto 4, 3) := by decide +kernel
theorem dX12_isLeaf_53 : decode cX12_isLeaf 53 = .ok (.iconst 0, 1) := by decide +kernel
theorem dX12_isLeaf_54 : decode cX12_isLeaf 54 = .ok (.ireturn, 1) := by decide +kernel
theorem dX12_isLeaf_55 : decode cX12_isLeaf 55 = .ok (.aload_n 0, 1) := by decide +kernel
theorem dX12_isLeaf_56 : decode cX12_isLeaf 56 = .ok (.getfield 33, 3) := by decide +kernel
theorem dX12_isLeaf_59 : decode cX12_isLeaf 59 = .ok (.sipush 130, 3) := by decide +kernel
theorem dX12_isLeaf_62 : decode cX12_isLeaf 62 = .ok (.iaload, 1) := by decide +kernel
theorem dX12_isLeaf_63 : decode cX12_isLeaf 63 = .ok (.iload_n 1, 1) := by decide +kernel
theorem dX12_isLeaf_64 : decode cX12_isLeaf 64 = .ok (.invokestatic 221, 3) := by decide +kernel
theorem dX12_isLeaf_67 : decode cX12_isLeaf 67 = .ok (.ireturn, 1) := by decide +kernel
theorem dX12_isLeaf_68 : decode cX12_isLeaf 68 = .ok (.aload_n 0, 1) := by decide +kernel
theorem dX12_isLeaf_69 : decode cX12_isLeaf 69 = .ok (.getfield 33, 3) := by decide +kernel
theorem dX12_isLeaf_72 : decode cX12_isLeaf 72 = .ok (.sipush 131, 3) := by decide +kernel
theorem dX12_isLeaf_75 : decode cX12_isLeaf 75 = .ok (.iaload, 1) := by decide +kernel
theorem dX12_isLeaf_76 : decode cX12_isLeaf 76 = .ok (.iload_n 1, 1) := by decide +kernel
theorem dX12_isLeaf_77 : decode cX12_isLeaf 77 = .ok (.invokestatic 221, 3) := by decide +kernel
theorem dX12_isLeaf_80 : decode cX12_isLeaf 80 = .ok (.ireturn, 1) := by decide +kernel
theorem dX12_isLeaf_81 : decode cX12_isLeaf 81 = .ok (.aload_n 0, 1) := by decide +kernel
theorem dX12_isLeaf_82 : decode cX12_isLeaf 82 = .ok (.iload_n 1, 1) := by decide +kernel
theorem dX12_isLeaf_83 : decode cX12_isLeaf 83 = .ok (.invokevirtual 259, 3) := by decide +kernel
theorem dX12_isLeaf_86 : decode cX12_isLeaf 86 = .ok (.aload_n 0, 1) := by decide +kernel
theorem dX12_isLeaf_87 : decode cX12_isLeaf 87 = .ok (.iload 4, 2) := by decide +kernel
theorem dX12_isLeaf_89 : decode cX12_isLeaf 89 = .ok (.invokevirtual 259, 3) := by decide +kernel
theorem dX12_isLeaf_92 : decode cX12_isLeaf 92 = .ok (.if_icmp .ne 7, 3) := by decide +kernel
theorem dX12_isLeaf_95 : decode cX12_isLeaf 95 = .ok (.iconst 1, 1) := by decide +kernel
theorem dX12_isLeaf_96 : decode cX12_isLeaf 96 = .ok (.goto 4, 3) := by decide +kernel
theorem dX12_isLeaf_99 : decode cX12_isLeaf 99 = .ok (.iconst 0, 1) := by decide +kernel
theorem dX12_isLeaf_100 : decode cX12_isLeaf 100 = .ok (.ireturn, 1) := by decide +kernel
theorem dX12_isLeaf_101 : decode cX12_isLeaf 101 = .ok (.aload_n 0, 1) := by decide +kernel
theorem dX12_isLeaf_102 : decode cX12_isLeaf 102 = .ok (.iload_n 1, 1) := by decide +kernel
theorem dX12_isLeaf_103 : decode cX12_isLeaf 103 = .ok (.iload 4, 2) := by decide +kernel
theorem dX12_isLeaf_105 : decode cX12_isLeaf 105 = .ok (.invokevirtual 269, 3) := by decide +kernel
theorem dX12_isLeaf_108 : decode cX12_isLeaf 108 = .ok (.ifCond .le 7, 3) := by decide +kernel
theorem dX12_isLeaf_111 : decode cX12_isLeaf 111 = .ok (.iconst 1, 1) := by decide +kernel
theorem dX12_isLeaf_112 : decode cX12_isLeaf 112 = .ok (.goto 4, 3) := by decide +kernel
theorem dX12_isLeaf_115 : decode cX12_isLeaf 115 = .ok (.iconst 0, 1) := by decide +kernel
theorem dX12_isLeaf_116 : decode cX12_isLeaf 116 = .ok (.ireturn, 1) := by decide +kernel
theorem dX12_isLeaf_117 : decode cX12_isLeaf 117 = .ok (.aload_n 0, 1) := by decide +kernel
theorem dX12_isLeaf_118 : decode cX12_isLeaf 118 = .ok (.iload_n 1, 1) := by decide +kernel
theorem dX12_isLeaf_119 : decode cX12_isLeaf 119 = .ok (.iload 4, 2) := by decide +kernel
theorem dX12_isLeaf_121 : decode cX12_isLeaf 121 = .ok (.invokevirtual 269, 3) := by decide +kernel
theorem dX12_isLeaf_124 : decode cX12_isLeaf 124 = .ok (.ifCond .ge 7, 3) := by decide +kernel
theorem dX12_isLeaf_127 : decode cX12_isLeaf 127 = .ok (.iconst 1, 1) := by decide +kernel
theorem dX12_isLeaf_128 : decode cX12_isLeaf 128 = .ok (.goto 4, 3) := by decide +kernel
theorem dX12_isLeaf_131 : decode cX12_isLeaf 131 = .ok (.iconst 0, 1) := by decide +kernel
theorem dX12_isLeaf_132 : decode cX12_isLeaf 132 = .ok (.ireturn, 1) := by decide +kernel
theorem dX12_isLeaf_133 : decode cX12_isLeaf 133 = .ok (.aload_n 0, 1) := by decide +kernel
theorem dX12_isLeaf_134 : decode cX12_isLeaf 134 = .ok (.getfield 33, 3) := by decide +kernel
theorem dX12_isLeaf_137 : decode cX12_isLeaf 137 = .ok (.iconst 0, 1) := by decide +kernel
theorem dX12_isLeaf_138 : decode cX12_isLeaf 138 = .ok (.iaload, 1) := by decide +kernel
theorem dX12_isLeaf_139 : decode cX12_isLeaf 139 = .ok (.ifCond .ne 7, 3) := by decide +kernel
theorem dX12_isLeaf_142 : decode cX12_isLeaf 142 = .ok (.iconst 0, 1) := by decide +kernel
theorem dX12_isLeaf_143 : decode cX12_isLeaf 143 = .ok (.goto 18, 3) := by decide +kernel
theorem dX12_isLeaf_146 : decode cX12_isLeaf 146 = .ok (.aload_n 0, 1) := by decide +kernel
theorem dX12_isLeaf_147 : decode cX12_isLeaf 147 = .ok (.iload_n 1, 1) := by decide +kernel
theorem dX12_isLeaf_148 : decode cX12_isLeaf 148 = .ok (.aload_n 0, 1) := by decide +kernel
theorem dX12_isLeaf_149 : decode cX12_isLeaf 149 = .ok (.getfield 33, 3) := by decide +kernel
theorem dX12_isLeaf_152 : decode cX12_isLeaf 152 = .ok (.bipush 126, 2) := by decide +kernel
theorem dX12_isLeaf_154 : decode cX12_isLeaf 154 = .ok (.iaload, 1) := by decide +kernel
theorem dX12_isLeaf_155 : decode cX12_isLeaf 155 = .ok (.invokevirtual 269, 3) := by decide +kernel
theorem dX12_isLeaf_158 : decode cX12_isLeaf 158 = .ok (.invokestatic 275, 3) := by decide +kernel
theorem dX12_isLeaf_161 : decode cX12_isLeaf 161 = .ok (.istore 5, 2) := by decide +kernel
theorem dX12_isLeaf_163 : decode cX12_isLeaf 163 = .ok (.iload_n 2, 1) := by decide +kernel
theorem dX12_isLeaf_164 : decode cX12_isLeaf 164 = .ok (.bipush 6, 2) := by decide +kernel
theorem dX12_isLeaf_166 : decode cX12_isLeaf 166 = .ok (.if_icmp .ne 8, 3) := by decide +kernel
theorem dX12_isLeaf_169 : decode cX12_isLeaf 169 = .ok (.iload 5, 2) := by decide +kernel
theorem dX12_isLeaf_171 : decode cX12_isLeaf 171 = .ok (.goto 40, 3) := by decide +kernel
theorem dX12_isLeaf_174 : decode cX12_isLeaf 174 = .ok (.iload_n 2, 1) := by decide +kernel
theorem dX12_isLeaf_175 : decode cX12_isLeaf 175 = .ok (.bipush 7, 2) := by decide +kernel
theorem dX12_isLeaf_177 : decode cX12_isLeaf 177 = .ok (.if_icmp .ne 14, 3) := by decide +kernel
theorem dX12_isLeaf_180 : decode cX12_isLeaf 180 = .ok (.aload_n 0, 1) := by decide +kernel
theorem dX12_isLeaf_181 : decode cX12_isLeaf 181 = .ok (.getfield 33, 3) := by decide +kernel
theorem dX12_isLeaf_184 : decode cX12_isLeaf 184 = .ok (.iconst 5, 1) := by decide +kernel
theorem dX12_isLeaf_185 : decode cX12_isLeaf 185 = .ok (.iload_n 1, 1) := by decide +kernel
theorem dX12_isLeaf_186 : decode cX12_isLeaf 186 = .ok (.iadd, 1) := by decide +kernel
theorem dX12_isLeaf_187 : decode cX12_isLeaf 187 = .ok (.iaload, 1) := by decide +kernel
theorem dX12_isLeaf_188 : decode cX12_isLeaf 188 = .ok (.goto 23, 3) := by decide +kernel
theorem dX12_isLeaf_191 : decode cX12_isLeaf 191 = .ok (.iload_n 2, 1) := by decide +kernel
theorem dX12_isLeaf_192 : decode cX12_isLeaf 192 = .ok (.bipush 8, 2) := by decide +kernel
theorem dX12_isLeaf_194 : decode cX12_isLeaf 194 = .ok (.if_icmp .ne 16, 3) := by decide +kernel
theorem dX12_isLeaf_197 : decode cX12_isLeaf 197 = .ok (.aload_n 0, 1) := by decide +kernel
theorem dX12_isLeaf_198 : decode cX12_isLeaf 198 = .ok (.getfield 33, 3) := by decide +kernel
theorem dX12_isLeaf_201 : decode cX12_isLeaf 201 = .ok (.sipush 132, 3) := by decide +kernel
theorem dX12_isLeaf_204 : decode cX12_isLeaf 204 = .ok (.iload_n 1, 1) := by decide +kernel
theorem dX12_isLeaf_205 : decode cX12_isLeaf 205 = .ok (.iadd, 1) := by decide +kernel
theorem dX12_isLeaf_206 : decode cX12_isLeaf 206 = .ok (.iaload, 1) := by decide +kernel
theorem dX12_isLeaf_207 : decode cX12_isLeaf 207 = .ok (.goto 4, 3) := by decide +kernel
theorem dX12_isLeaf_210 : decode cX12_isLeaf 210 = .ok (.iload_n 1, 1) := by decide +kernel
theorem dX12_isLeaf_211 : decode cX12_isLeaf 211 = .ok (.istore 6, 2) := by decide +kernel
theorem dX12_isLeaf_213 : decode cX12_isLeaf 213 = .ok (.iload_n 3, 1) := by decide +kernel
theorem dX12_isLeaf_214 : decode cX12_isLeaf 214 = .ok (.bipush 60, 2) := by decide +kernel
theorem dX12_isLeaf_216 : decode cX12_isLeaf 216 = .ok (.if_icmp .ne 18, 3) := by decide +kernel
theorem dX12_isLeaf_219 : decode cX12_isLeaf 219 = .ok (.iload 6, 2) := by decide +kernel
theorem dX12_isLeaf_221 : decode cX12_isLeaf 221 = .ok (.iload 4, 2) := by decide +kernel
theorem dX12_isLeaf_223 : decode cX12_isLeaf 223 = .ok (.if_icmp .ge 7, 3) := by decide +kernel
theorem dX12_isLeaf_226 : decode cX12_isLeaf 226 = .ok (.iconst 1, 1) := by decide +kernel
theorem dX12_isLeaf_227 : decode cX12_isLeaf 227 = .ok (.goto 40, 3) := by decide +kernel
theorem dX12_isLeaf_230 : decode cX12_isLeaf 230 = .ok (.iconst 0, 1) := by decide +kernel
theorem dX12_isLeaf_231 : decode cX12_isLeaf 231 = .ok (.goto 36, 3) := by decide +kernel
theorem dX12_isLeaf_234 : decode cX12_isLeaf 234 = .ok (.iload_n 3, 1) := by decide +kernel
theorem dX12_isLeaf_235 : decode cX12_isLeaf 235 = .ok (.bipush 61, 2) := by decide +kernel
theorem dX12_isLeaf_237 : decode cX12_isLeaf 237 = .ok (.if_icmp .ne 18, 3) := by decide +kernel
theorem dX12_isLeaf_240 : decode cX12_isLeaf 240 = .ok (.iload 6, 2) := by decide +kernel
theorem dX12_isLeaf_242 : decode cX12_isLeaf 242 = .ok (.iload 4, 2) := by decide +kernel
theorem dX12_isLeaf_244 : decode cX12_isLeaf 244 = .ok (.if_icmp .ne 7, 3) := by decide +kernel
theorem dX12_isLeaf_247 : decode cX12_isLeaf 247 = .ok (.iconst 1, 1) := by decide +kernel
theorem dX12_isLeaf_248 : decode cX12_isLeaf 248 = .ok (.goto 19, 3) := by decide +kernel
theorem dX12_isLeaf_251 : decode cX12_isLeaf 251 = .ok (.iconst 0, 1) := by decide +kernel
theorem dX12_isLeaf_252 : decode cX12_isLeaf 252 = .ok (.goto 15, 3) := by decide +kernel
theorem dX12_isLeaf_255 : decode cX12_isLeaf 255 = .ok (.iload 6, 2) := by decide +kernel
theorem dX12_isLeaf_257 : decode cX12_isLeaf 257 = .ok (.iload 4, 2) := by decide +kernel
theorem dX12_isLeaf_259 : decode cX12_isLeaf 259 = .ok (.if_icmp .le 7, 3) := by decide +kernel
theorem dX12_isLeaf_262 : decode cX12_isLeaf 262 = .ok (.iconst 1, 1) := by decide +kernel
theorem dX12_isLeaf_263 : decode cX12_isLeaf 263 = .ok (.goto 4, 3) := by decide +kernel
theorem dX12_isLeaf_266 : decode cX12_isLeaf 266 = .ok (.iconst 0, 1) := by decide +kernel
theorem dX12_isLeaf_267 : decode cX12_isLeaf 267 = .ok (.ireturn, 1) := by decide +kernel
theorem dX12_isSaid_0 : decode cX12_isSaid 0 = .ok (.iconst 0, 1) := by decide +kernel
theorem dX12_isSaid_1 : decode cX12_isSaid 1 = .ok (.istore_n 2, 1) := by decide +kernel
theorem dX12_isSaid_2 : decode cX12_isSaid 2 = .ok (.iconst 0, 1) := by decide +kernel
theorem dX12_isSaid_3 : decode cX12_isSaid 3 = .ok (.istore_n 3, 1) := by decide +kernel
theorem dX12_isSaid_4 : decode cX12_isSaid 4 = .ok (.iload_n 3, 1) := by decide +kernel
theorem dX12_isSaid_5 : decode cX12_isSaid 5 = .ok (.aload_n 0, 1) := by decide +kernel
theorem dX12_isSaid_6 : decode cX12_isSaid 6 = .ok (.getfield 33, 3) := by decide +kernel
theorem dX12_isSaid_9 : decode cX12_isSaid 9 = .ok (.sipush 332, 3) := by decide +kernel
theorem dX12_isSaid_12 : decode cX12_isSaid 12 = .ok (.iaload, 1) := by decide +kernel
theorem dX12_isSaid_13 : decode cX12_isSaid 13 = .ok (.if_icmp .ge 199, 3) := by decide +kernel
theorem dX12_isSaid_16 : decode cX12_isSaid 16 = .ok (.sipush 333, 3) := by decide +kernel
theorem dX12_isSaid_19 : decode cX12_isSaid 19 = .ok (.iconst 3, 1) := by decide +kernel
theorem dX12_isSaid_20 : decode cX12_isSaid 20 = .ok (.iload_n 3, 1) := by decide +kernel
theorem dX12_isSaid_21 : decode cX12_isSaid 21 = .ok (.imul, 1) := by decide +kernel
theorem dX12_isSaid_22 : decode cX12_isSaid 22 = .ok (.iadd, 1) := by decide +kernel
theorem dX12_isSaid_23 : decode cX12_isSaid 23 = .ok (.istore 4, 2) := by decide +kernel
theorem dX12_isSaid_25 : decode cX12_isSaid 25 = .ok (.aload_n 0, 1) := by decide +kernel
theorem dX12_isSaid_26 : decode cX12_isSaid 26 = .ok (.getfield 33, 3) := by decide +kernel
theorem dX12_isSaid_29 : decode cX12_isSaid 29 = .ok (.iload 4, 2) := by decide +kernel
theorem dX12_isSaid_31 : decode cX12_isSaid 31 = .ok (.iaload, 1) := by decide +kernel
theorem dX12_isSaid_32 : decode cX12_isSaid 32 = .ok (.bipush 20, 2) := by decide +kernel
theorem dX12_isSaid_34 : decode cX12_isSaid 34 = .ok (.if_icmp .ne 30, 3) := by decide +kernel
theorem dX12_isSaid_37 : decode cX12_isSaid 37 = .ok (.aload_n 0, 1) := by decide +kernel
theorem dX12_isSaid_38 : decode cX12_isSaid 38 = .ok (.getfield 87, 3) := by decide +kernel
theorem dX12_isSaid_41 : decode cX12_isSaid 41 = .ok (.iload_n 2, 1) := by decide +kernel
theorem dX12_isSaid_42 : decode cX12_isSaid 42 = .ok (.iconst 1, 1) := by decide +kernel
theorem dX12_isSaid_43 : decode cX12_isSaid 43 = .ok (.isub, 1) := by decide +kernel
theorem dX12_isSaid_44 : decode cX12_isSaid 44 = .ok (.aload_n 0, 1) := by decide +kernel
theorem dX12_isSaid_45 : decode cX12_isSaid 45 = .ok (.getfield 87, 3) := by decide +kernel
theorem dX12_isSaid_48 : decode cX12_isSaid 48 = .ok (.iload_n 2, 1) := by decide +kernel
theorem dX12_isSaid_49 : decode cX12_isSaid 49 = .ok (.iconst 1, 1) := by decide +kernel
theorem dX12_isSaid_50 : decode cX12_isSaid 50 = .ok (.isub, 1) := by decide +kernel
theorem dX12_isSaid_51 : decode cX12_isSaid 51 = .ok (.baload, 1) := by decide +kernel
theorem dX12_isSaid_52 : decode cX12_isSaid 52 = .ok (.ifCond .ne 7, 3) := by decide +kernel
theorem dX12_isSaid_55 : decode cX12_isSaid 55 = .ok (.iconst 1, 1) := by decide +kernel
theorem dX12_isSaid_56 : decode cX12_isSaid 56 = .ok (.goto 4, 3) := by decide +kernel
theorem dX12_isSaid_59 : decode cX12_isSaid 59 = .ok (.iconst 0, 1) := by decide +kernel
theorem dX12_isSaid_60 : decode cX12_isSaid 60 = .ok (.bastore, 1) := by decide +kernel
theorem dX12_isSaid_61 : decode cX12_isSaid 61 = .ok (.goto 145, 3) := by decide +kernel
theorem dX12_isSaid_64 : decode cX12_isSaid 64 = .ok (.aload_n 0, 1) := by decide +kernel
theorem dX12_isSaid_65 : decode cX12_isSaid 65 = .ok (.getfield 33, 3) := by decide +kernel
theorem dX12_isSaid_68 : decode cX12_isSaid 68 = .ok (.iload 4, 2) := by decide +kernel
theorem dX12_isSaid_70 : decode cX12_isSaid 70 = .ok (.iaload, 1) := by decide +kernel
theorem dX12_isSaid_71 : decode cX12_isSaid 71 = .ok (.bipush 21, 2) := by decide +kernel
theorem dX12_isSaid_73 : decode cX12_isSaid 73 = .ok (.if_icmp .eq 15, 3) := by decide +kernel
theorem dX12_isSaid_76 : decode cX12_isSaid 76 = .ok (.aload_n 0, 1) := by decide +kernel
theorem dX12_isSaid_77 : decode cX12_isSaid 77 = .ok (.getfield 33, 3) := by decide +kernel
theorem dX12_isSaid_80 : decode cX12_isSaid 80 = .ok (.iload 4, 2) := by decide +kernel
theorem dX12_isSaid_82 : decode cX12_isSaid 82 = .ok (.iaload, 1) := by decide +kernel
theorem dX12_isSaid_83 : decode cX12_isSaid 83 = .ok (.bipush 22, 2) := by decide +kernel
theorem dX12_isSaid_85 : decode cX12_isSaid 85 = .ok (.if_icmp .ne 82, 3) := by decide +kernel
theorem dX12_isSaid_88 : decode cX12_isSaid 88 = .ok (.iinc 2 (-1), 3) := by decide +kernel
theorem dX12_isSaid_91 : decode cX12_isSaid 91 = .ok (.aload_n 0, 1) := by decide +kernel
theorem dX12_isSaid_92 : decode cX12_isSaid 92 = .ok (.getfield 87, 3) := by decide +kernel
theorem dX12_isSaid_95 : decode cX12_isSaid 95 = .ok (.iload_n 2, 1) := by decide +kernel
theorem dX12_isSaid_96 : decode cX12_isSaid 96 = .ok (.iconst 1, 1) := by decide +kernel
theorem dX12_isSaid_97 : decode cX12_isSaid 97 = .ok (.isub, 1) := by decide +kernel
theorem dX12_isSaid_98 : decode cX12_isSaid 98 = .ok (.aload_n 0, 1) := by decide +kernel
theorem dX12_isSaid_99 : decode cX12_isSaid 99 = .ok (.getfield 33, 3) := by decide +kernel
theorem dX12_isSaid_102 : decode cX12_isSaid 102 = .ok (.iload 4, 2) := by decide +kernel
theorem dX12_isSaid_104 : decode cX12_isSaid 104 = .ok (.iaload, 1) := by decide +kernel
theorem dX12_isSaid_105 : decode cX12_isSaid 105 = .ok (.bipush 21, 2) := by decide +kernel
theorem dX12_isSaid_107 : decode cX12_isSaid 107 = .ok (.if_icmp .ne 31, 3) := by decide +kernel
theorem dX12_isSaid_110 : decode cX12_isSaid 110 = .ok (.aload_n 0, 1) := by decide +kernel
theorem dX12_isSaid_111 : decode cX12_isSaid 111 = .ok (.getfield 87, 3) := by decide +kernel
theorem dX12_isSaid_114 : decode cX12_isSaid 114 = .ok (.iload_n 2, 1) := by decide +kernel
theorem dX12_isSaid_115 : decode cX12_isSaid 115 = .ok (.iconst 1, 1) := by decide +kernel
theorem dX12_isSaid_116 : decode cX12_isSaid 116 = .ok (.isub, 1) := by decide +kernel
theorem dX12_isSaid_117 : decode cX12_isSaid 117 = .ok (.baload, 1) := by decide +kernel
theorem dX12_isSaid_118 : decode cX12_isSaid 118 = .ok (.ifCond .eq 16, 3) := by decide +kernel
theorem dX12_isSaid_121 : decode cX12_isSaid 121 = .ok (.aload_n 0, 1) := by decide +kernel
theorem dX12_isSaid_122 : decode cX12_isSaid 122 = .ok (.getfield 87, 3) := by decide +kernel
theorem dX12_isSaid_125 : decode cX12_isSaid 125 = .ok (.iload_n 2, 1) := by decide +kernel
theorem dX12_isSaid_126 : decode cX12_isSaid 126 = .ok (.baload, 1) := by decide +kernel
theorem dX12_isSaid_127 : decode cX12_isSaid 127 = .ok (.ifCond .eq 7, 3) := by decide +kernel
theorem dX12_isSaid_130 : decode cX12_isSaid 130 = .ok (.iconst 1, 1) := by decide +kernel
theorem dX12_isSaid_131 : decode cX12_isSaid 131 = .ok (.goto 32, 3) := by decide +kernel
theorem dX12_isSaid_134 : decode cX12_isSaid 134 = .ok (.iconst 0, 1) := by decide +kernel
theorem dX12_isSaid_135 : decode cX12_isSaid 135 = .ok (.goto 28, 3) := by decide +kernel
theorem dX12_isSaid_138 : decode cX12_isSaid 138 = .ok (.aload_n 0, 1) := by decide +kernel
theorem dX12_isSaid_139 : decode cX12_isSaid 139 = .ok (.getfield 87, 3) := by decide +kernel
theorem dX12_isSaid_142 : decode cX12_isSaid 142 = .ok (.iload_n 2, 1) := by decide +kernel
theorem dX12_isSaid_143 : decode cX12_isSaid 143 = .ok (.iconst 1, 1) := by decide +kernel
theorem dX12_isSaid_144 : decode cX12_isSaid 144 = .ok (.isub, 1) := by decide +kernel
theorem dX12_isSaid_145 : decode cX12_isSaid 145 = .ok (.baload, 1) := by decide +kernel
theorem dX12_isSaid_146 : decode cX12_isSaid 146 = .ok (.ifCond .ne 12, 3) := by decide +kernel
theorem dX12_isSaid_149 : decode cX12_isSaid 149 = .ok (.aload_n 0, 1) := by decide +kernel
theorem dX12_isSaid_150 : decode cX12_isSaid 150 = .ok (.getfield 87, 3) := by decide +kernel
theorem dX12_isSaid_153 : decode cX12_isSaid 153 = .ok (.iload_n 2, 1) := by decide +kernel
theorem dX12_isSaid_154 : decode cX12_isSaid 154 = .ok (.baload, 1) := by decide +kernel
theorem dX12_isSaid_155 : decode cX12_isSaid 155 = .ok (.ifCond .eq 7, 3) := by decide +kernel
theorem dX12_isSaid_158 : decode cX12_isSaid 158 = .ok (.iconst 1, 1) := by decide +kernel
theorem dX12_isSaid_159 : decode cX12_isSaid 159 = .ok (.goto 4, 3) := by decide +kernel
theorem dX12_isSaid_162 : decode cX12_isSaid 162 = .ok (.iconst 0, 1) := by decide +kernel
theorem dX12_isSaid_163 : decode cX12_isSaid 163 = .ok (.bastore, 1) := by decide +kernel
theorem dX12_isSaid_164 : decode cX12_isSaid 164 = .ok (.goto 42, 3) := by decide +kernel
theorem dX12_isSaid_167 : decode cX12_isSaid 167 = .ok (.aload_n 0, 1) := by decide +kernel
theorem dX12_isSaid_168 : decode cX12_isSaid 168 = .ok (.getfield 87, 3) := by decide +kernel
theorem dX12_isSaid_171 : decode cX12_isSaid 171 = .ok (.iload_n 2, 1) := by decide +kernel
theorem dX12_isSaid_172 : decode cX12_isSaid 172 = .ok (.aload_n 0, 1) := by decide +kernel
theorem dX12_isSaid_173 : decode cX12_isSaid 173 = .ok (.iload_n 1, 1) := by decide +kernel
theorem dX12_isSaid_174 : decode cX12_isSaid 174 = .ok (.aload_n 0, 1) := by decide +kernel
theorem dX12_isSaid_175 : decode cX12_isSaid 175 = .ok (.getfield 33, 3) := by decide +kernel
theorem dX12_isSaid_178 : decode cX12_isSaid 178 = .ok (.iload 4, 2) := by decide +kernel
theorem dX12_isSaid_180 : decode cX12_isSaid 180 = .ok (.iaload, 1) := by decide +kernel
theorem dX12_isSaid_181 : decode cX12_isSaid 181 = .ok (.aload_n 0, 1) := by decide +kernel
theorem dX12_isSaid_182 : decode cX12_isSaid 182 = .ok (.getfield 33, 3) := by decide +kernel
theorem dX12_isSaid_185 : decode cX12_isSaid 185 = .ok (.iload 4, 2) := by decide +kernel
theorem dX12_isSaid_187 : decode cX12_isSaid 187 = .ok (.iconst 1, 1) := by decide +kernel
theorem dX12_isSaid_188 : decode cX12_isSaid 188 = .ok (.iadd, 1) := by decide +kernel
theorem dX12_isSaid_189 : decode cX12_isSaid 189 = .ok (.iaload, 1) := by decide +kernel
theorem dX12_isSaid_190 : decode cX12_isSaid 190 = .ok (.aload_n 0, 1) := by decide +kernel
theorem dX12_isSaid_191 : decode cX12_isSaid 191 = .ok (.getfield 33, 3) := by decide +kernel
theorem dX12_isSaid_194 : decode cX12_isSaid 194 = .ok (.iload 4, 2) := by decide +kernel
theorem dX12_isSaid_196 : decode cX12_isSaid 196 = .ok (.iconst 2, 1) := by decide +kernel
theorem dX12_isSaid_197 : decode cX12_isSaid 197 = .ok (.iadd, 1) := by decide +kernel
theorem dX12_isSaid_198 : decode cX12_isSaid 198 = .ok (.iaload, 1) := by decide +kernel
theorem dX12_isSaid_199 : decode cX12_isSaid 199 = .ok (.invokevirtual 437, 3) := by decide +kernel
theorem dX12_isSaid_202 : decode cX12_isSaid 202 = .ok (.bastore, 1) := by decide +kernel
theorem dX12_isSaid_203 : decode cX12_isSaid 203 = .ok (.iinc 2 1, 3) := by decide +kernel
theorem dX12_isSaid_206 : decode cX12_isSaid 206 = .ok (.iinc 3 1, 3) := by decide +kernel
theorem dX12_isSaid_209 : decode cX12_isSaid 209 = .ok (.goto (-205), 3) := by decide +kernel
theorem dX12_isSaid_212 : decode cX12_isSaid 212 = .ok (.aload_n 0, 1) := by decide +kernel
theorem dX12_isSaid_213 : decode cX12_isSaid 213 = .ok (.getfield 87, 3) := by decide +kernel
theorem dX12_isSaid_216 : decode cX12_isSaid 216 = .ok (.iconst 0, 1) := by decide +kernel
theorem dX12_isSaid_217 : decode cX12_isSaid 217 = .ok (.baload, 1) := by decide +kernel
theorem dX12_isSaid_218 : decode cX12_isSaid 218 = .ok (.ireturn, 1) := by decide +kernel
theorem dX12_said_0 : decode cX12_said 0 = .ok (.aload_n 0, 1) := by decide +kernel
theorem dX12_said_1 : decode cX12_said 1 = .ok (.iconst 0, 1) := by decide +kernel
theorem dX12_said_2 : decode cX12_said 2 = .ok (.putfield 1, 3) := by decide +kernel
theorem dX12_said_5 : decode cX12_said 5 = .ok (.aload_n 0, 1) := by decide +kernel
theorem dX12_said_6 : decode cX12_said 6 = .ok (.getfield 33, 3) := by decide +kernel
theorem dX12_said_9 : decode cX12_said 9 = .ok (.sipush 332, 3) := by decide +kernel
theorem dX12_said_12 : decode cX12_said 12 = .ok (.iaload, 1) := by decide +kernel
theorem dX12_said_13 : decode cX12_said 13 = .ok (.ifCond .eq 8, 3) := by decide +kernel
theorem dX12_said_16 : decode cX12_said 16 = .ok (.iload_n 1, 1) := by decide +kernel
theorem dX12_said_17 : decode cX12_said 17 = .ok (.iconst (-1), 1) := by decide +kernel
theorem dX12_said_18 : decode cX12_said 18 = .ok (.if_icmp .ge 5, 3) := by decide +kernel
theorem dX12_said_21 : decode cX12_said 21 = .ok (.iconst (-1), 1) := by decide +kernel
theorem dX12_said_22 : decode cX12_said 22 = .ok (.ireturn, 1) := by decide +kernel
theorem dX12_said_23 : decode cX12_said 23 = .ok (.iconst 0, 1) := by decide +kernel
theorem dX12_said_24 : decode cX12_said 24 = .ok (.istore_n 2, 1) := by decide +kernel
theorem dX12_said_25 : decode cX12_said 25 = .ok (.iconst 0, 1) := by decide +kernel
theorem dX12_said_26 : decode cX12_said 26 = .ok (.istore_n 3, 1) := by decide +kernel
theorem dX12_said_27 : decode cX12_said 27 = .ok (.iload_n 3, 1) := by decide +kernel
theorem dX12_said_28 : decode cX12_said 28 = .ok (.aload_n 0, 1) := by decide +kernel
theorem dX12_said_29 : decode cX12_said 29 = .ok (.getfield 33, 3) := by decide +kernel
theorem dX12_said_32 : decode cX12_said 32 = .ok (.iconst 1, 1) := by decide +kernel
theorem dX12_said_33 : decode cX12_said 33 = .ok (.iaload, 1) := by decide +kernel
theorem dX12_said_34 : decode cX12_said 34 = .ok (.if_icmp .ge 30, 3) := by decide +kernel
theorem dX12_said_37 : decode cX12_said 37 = .ok (.aload_n 0, 1) := by decide +kernel
theorem dX12_said_38 : decode cX12_said 38 = .ok (.iload_n 3, 1) := by decide +kernel
theorem dX12_said_39 : decode cX12_said 39 = .ok (.invokevirtual 440, 3) := by decide +kernel
theorem dX12_said_42 : decode cX12_said 42 = .ok (.ifCond .ne 6, 3) := by decide +kernel
theorem dX12_said_45 : decode cX12_said 45 = .ok (.goto 13, 3) := by decide +kernel
theorem dX12_said_48 : decode cX12_said 48 = .ok (.iload_n 2, 1) := by decide +kernel
theorem dX12_said_49 : decode cX12_said 49 = .ok (.iload_n 1, 1) := by decide +kernel
theorem dX12_said_50 : decode cX12_said 50 = .ok (.if_icmp .ne 5, 3) := by decide +kernel
theorem dX12_said_53 : decode cX12_said 53 = .ok (.iload_n 3, 1) := by decide +kernel
theorem dX12_said_54 : decode cX12_said 54 = .ok (.ireturn, 1) := by decide +kernel
theorem dX12_said_55 : decode cX12_said 55 = .ok (.iinc 2 1, 3) := by decide +kernel
theorem dX12_said_58 : decode cX12_said 58 = .ok (.iinc 3 1, 3) := by decide +kernel
theorem dX12_said_61 : decode cX12_said 61 = .ok (.goto (-34), 3) := by decide +kernel
theorem dX12_said_64 : decode cX12_said 64 = .ok (.iload_n 1, 1) := by decide +kernel
theorem dX12_said_65 : decode cX12_said 65 = .ok (.iconst (-1), 1) := by decide +kernel
theorem dX12_said_66 : decode cX12_said 66 = .ok (.if_icmp .ne 7, 3) := by decide +kernel
theorem dX12_said_69 : decode cX12_said 69 = .ok (.iload_n 2, 1) := by decide +kernel
theorem dX12_said_70 : decode cX12_said 70 = .ok (.goto 4, 3) := by decide +kernel
theorem dX12_said_73 : decode cX12_said 73 = .ok (.iconst (-1), 1) := by decide +kernel
theorem dX12_said_74 : decode cX12_said 74 = .ok (.ireturn, 1) := by decide +kernel
theorem dX12_image_0 : decode cX12_image 0 = .ok (.aload_n 0, 1) := by decide +kernel
theorem dX12_image_1 : decode cX12_image 1 = .ok (.iconst 0, 1) := by decide +kernel
theorem dX12_image_2 : decode cX12_image 2 = .ok (.putfield 1, 3) := by decide +kernel
theorem dX12_image_5 : decode cX12_image 5 = .ok (.iload_n 1, 1) := by decide +kernel
theorem dX12_image_6 : decode cX12_image 6 = .ok (.iconst 0, 1) := by decide +kernel
theorem dX12_image_7 : decode cX12_image 7 = .ok (.iconst 1, 1) := by decide +kernel
theorem dX12_image_8 : decode cX12_image 8 = .ok (.invokestatic 189, 3) := by decide +kernel
theorem dX12_image_11 : decode cX12_image 11 = .ok (.ifCond .ne 5, 3) := by decide +kernel
theorem dX12_image_14 : decode cX12_image 14 = .ok (.iconst 0, 1) := by decide +kernel
theorem dX12_image_15 : decode cX12_image 15 = .ok (.ireturn, 1) := by decide +kernel
theorem dX12_image_16 : decode cX12_image 16 = .ok (.iconst 0, 1) := by decide +kernel
theorem dX12_image_17 : decode cX12_image 17 = .ok (.istore_n 2, 1) := by decide +kernel
theorem dX12_image_18 : decode cX12_image 18 = .ok (.iload_n 2, 1) := by decide +kernel
theorem dX12_image_19 : decode cX12_image 19 = .ok (.sipush 513, 3) := by decide +kernel
theorem dX12_image_22 : decode cX12_image 22 = .ok (.if_icmp .ge 27, 3) := by decide +kernel
theorem dX12_image_25 : decode cX12_image 25 = .ok (.aload_n 0, 1) := by decide +kernel
theorem dX12_image_26 : decode cX12_image 26 = .ok (.getfield 90, 3) := by decide +kernel
theorem dX12_image_29 : decode cX12_image 29 = .ok (.sipush 513, 3) := by decide +kernel
theorem dX12_image_32 : decode cX12_image 32 = .ok (.iload_n 1, 1) := by decide +kernel
theorem dX12_image_33 : decode cX12_image 33 = .ok (.imul, 1) := by decide +kernel
theorem dX12_image_34 : decode cX12_image 34 = .ok (.iload_n 2, 1) := by decide +kernel
theorem dX12_image_35 : decode cX12_image 35 = .ok (.iadd, 1) := by decide +kernel
theorem dX12_image_36 : decode cX12_image 36 = .ok (.aload_n 0, 1) := by decide +kernel
theorem dX12_image_37 : decode cX12_image 37 = .ok (.getfield 33, 3) := by decide +kernel
theorem dX12_image_40 : decode cX12_image 40 = .ok (.iload_n 2, 1) := by decide +kernel
theorem dX12_image_41 : decode cX12_image 41 = .ok (.iaload, 1) := by decide +kernel
theorem dX12_image_42 : decode cX12_image 42 = .ok (.iastore, 1) := by decide +kernel
theorem dX12_image_43 : decode cX12_image 43 = .ok (.iinc 2 1, 3) := by decide +kernel
theorem dX12_image_46 : decode cX12_image 46 = .ok (.goto (-28), 3) := by decide +kernel
theorem dX12_image_49 : decode cX12_image 49 = .ok (.iconst 0, 1) := by decide +kernel
theorem dX12_image_50 : decode cX12_image 50 = .ok (.istore_n 2, 1) := by decide +kernel
theorem dX12_image_51 : decode cX12_image 51 = .ok (.iload_n 2, 1) := by decide +kernel
theorem dX12_image_52 : decode cX12_image 52 = .ok (.bipush 19, 2) := by decide +kernel
theorem dX12_image_54 : decode cX12_image 54 = .ok (.if_icmp .ge 26, 3) := by decide +kernel
theorem dX12_image_57 : decode cX12_image 57 = .ok (.aload_n 0, 1) := by decide +kernel
theorem dX12_image_58 : decode cX12_image 58 = .ok (.getfield 93, 3) := by decide +kernel
theorem dX12_image_61 : decode cX12_image 61 = .ok (.bipush 19, 2) := by decide +kernel
theorem dX12_image_63 : decode cX12_image 63 = .ok (.iload_n 1, 1) := by decide +kernel
theorem dX12_image_64 : decode cX12_image 64 = .ok (.imul, 1) := by decide +kernel
theorem dX12_image_65 : decode cX12_image 65 = .ok (.iload_n 2, 1) := by decide +kernel
theorem dX12_image_66 : decode cX12_image 66 = .ok (.iadd, 1) := by decide +kernel
theorem dX12_image_67 : decode cX12_image 67 = .ok (.aload_n 0, 1) := by decide +kernel
theorem dX12_image_68 : decode cX12_image 68 = .ok (.getfield 43, 3) := by decide +kernel
theorem dX12_image_71 : decode cX12_image 71 = .ok (.iload_n 2, 1) := by decide +kernel
theorem dX12_image_72 : decode cX12_image 72 = .ok (.laload, 1) := by decide +kernel
theorem dX12_image_73 : decode cX12_image 73 = .ok (.lastore, 1) := by decide +kernel
theorem dX12_image_74 : decode cX12_image 74 = .ok (.iinc 2 1, 3) := by decide +kernel
theorem dX12_image_77 : decode cX12_image 77 = .ok (.goto (-26), 3) := by decide +kernel
theorem dX12_image_80 : decode cX12_image 80 = .ok (.aload_n 0, 1) := by decide +kernel
theorem dX12_image_81 : decode cX12_image 81 = .ok (.getfield 96, 3) := by decide +kernel
theorem dX12_image_84 : decode cX12_image 84 = .ok (.iload_n 1, 1) := by decide +kernel
theorem dX12_image_85 : decode cX12_image 85 = .ok (.iconst 1, 1) := by decide +kernel
theorem dX12_image_86 : decode cX12_image 86 = .ok (.bastore, 1) := by decide +kernel
theorem dX12_image_87 : decode cX12_image 87 = .ok (.iconst 1, 1) := by decide +kernel
theorem dX12_image_88 : decode cX12_image 88 = .ok (.ireturn, 1) := by decide +kernel
