theorem dX11_doubters_0 : decode cX11_doubters 0 = .ok (.aload_n 0, 1) := by decide +kernel
theorem dX11_doubters_1 : decode cX11_doubters 1 = .ok (.iload_n 1, 1) := by decide +kernel
theorem dX11_doubters_2 : decode cX11_doubters 2 = .ok (.invokevirtual 210, 3) := by decide +kernel
theorem dX11_doubters_5 : decode cX11_doubters 5 = .ok (.ifCond .eq 18, 3) := by decide +kernel
theorem dX11_doubters_8 : decode cX11_doubters 8 = .ok (.aload_n 0, 1) := by decide +kernel
theorem dX11_doubters_9 : decode cX11_doubters 9 = .ok (.getfield 56, 3) := by decide +kernel
theorem dX11_doubters_12 : decode cX11_doubters 12 = .ok (.aload_n 0, 1) := by decide +kernel
theorem dX11_doubters_13 : decode cX11_doubters 13 = .ok (.getfield 42, 3) := by decide +kernel
theorem dX11_doubters_16 : decode cX11_doubters 16 = .ok (.iload_n 1, 1) := by decide +kernel
theorem dX11_doubters_17 : decode cX11_doubters 17 = .ok (.invokevirtual 257, 3) := by decide +kernel
theorem dX11_doubters_20 : decode cX11_doubters 20 = .ok (.goto 4, 3) := by decide +kernel
theorem dX11_doubters_23 : decode cX11_doubters 23 = .ok (.iconst (-1), 1) := by decide +kernel
theorem dX11_doubters_24 : decode cX11_doubters 24 = .ok (.ireturn, 1) := by decide +kernel
theorem dX11_jokes_0 : decode cX11_jokes 0 = .ok (.aload_n 0, 1) := by decide +kernel
theorem dX11_jokes_1 : decode cX11_jokes 1 = .ok (.iload_n 1, 1) := by decide +kernel
theorem dX11_jokes_2 : decode cX11_jokes 2 = .ok (.invokevirtual 210, 3) := by decide +kernel
theorem dX11_jokes_5 : decode cX11_jokes 5 = .ok (.ifCond .eq 12, 3) := by decide +kernel
theorem dX11_jokes_8 : decode cX11_jokes 8 = .ok (.iload_n 2, 1) := by decide +kernel
theorem dX11_jokes_9 : decode cX11_jokes 9 = .ok (.ifCond .lt 8, 3) := by decide +kernel
theorem dX11_jokes_12 : decode cX11_jokes 12 = .ok (.iload_n 2, 1) := by decide +kernel
theorem dX11_jokes_13 : decode cX11_jokes 13 = .ok (.iconst 1, 1) := by decide +kernel
theorem dX11_jokes_14 : decode cX11_jokes 14 = .ok (.if_icmp .le 11, 3) := by decide +kernel
theorem dX11_jokes_17 : decode cX11_jokes 17 = .ok (.new 126, 3) := by decide +kernel
theorem dX11_jokes_20 : decode cX11_jokes 20 = .ok (.dup, 1) := by decide +kernel
theorem dX11_jokes_21 : decode cX11_jokes 21 = .ok (.invokespecial 128, 3) := by decide +kernel
theorem dX11_jokes_24 : decode cX11_jokes 24 = .ok (.athrow, 1) := by decide +kernel
theorem dX11_jokes_25 : decode cX11_jokes 25 = .ok (.iload_n 1, 1) := by decide +kernel
theorem dX11_jokes_26 : decode cX11_jokes 26 = .ok (.aload_n 0, 1) := by decide +kernel
theorem dX11_jokes_27 : decode cX11_jokes 27 = .ok (.getfield 42, 3) := by decide +kernel
theorem dX11_jokes_30 : decode cX11_jokes 30 = .ok (.getfield 129, 3) := by decide +kernel
theorem dX11_jokes_33 : decode cX11_jokes 33 = .ok (.getfield 145, 3) := by decide +kernel
theorem dX11_jokes_36 : decode cX11_jokes 36 = .ok (.iconst (-1), 1) := by decide +kernel
theorem dX11_jokes_37 : decode cX11_jokes 37 = .ok (.ixor, 1) := by decide +kernel
theorem dX11_jokes_38 : decode cX11_jokes 38 = .ok (.iand, 1) := by decide +kernel
theorem dX11_jokes_39 : decode cX11_jokes 39 = .ok (.invokestatic 223, 3) := by decide +kernel
theorem dX11_jokes_42 : decode cX11_jokes 42 = .ok (.istore_n 3, 1) := by decide +kernel
theorem dX11_jokes_43 : decode cX11_jokes 43 = .ok (.aload_n 0, 1) := by decide +kernel
theorem dX11_jokes_44 : decode cX11_jokes 44 = .ok (.iload_n 3, 1) := by decide +kernel
theorem dX11_jokes_45 : decode cX11_jokes 45 = .ok (.aload_n 0, 1) := by decide +kernel
theorem dX11_jokes_46 : decode cX11_jokes 46 = .ok (.getfield 42, 3) := by decide +kernel
theorem dX11_jokes_49 : decode cX11_jokes 49 = .ok (.iload_n 1, 1) := by decide +kernel
theorem dX11_jokes_50 : decode cX11_jokes 50 = .ok (.aload_n 0, 1) := by decide +kernel
theorem dX11_jokes_51 : decode cX11_jokes 51 = .ok (.getfield 42, 3) := by decide +kernel
theorem dX11_jokes_54 : decode cX11_jokes 54 = .ok (.getfield 129, 3) := by decide +kernel
theorem dX11_jokes_57 : decode cX11_jokes 57 = .ok (.getfield 175, 3) := by decide +kernel
theorem dX11_jokes_60 : decode cX11_jokes 60 = .ok (.invokevirtual 213, 3) := by decide +kernel
theorem dX11_jokes_63 : decode cX11_jokes 63 = .ok (.invokevirtual 260, 3) := by decide +kernel
theorem dX11_jokes_66 : decode cX11_jokes 66 = .ok (.istore 4, 2) := by decide +kernel
theorem dX11_jokes_68 : decode cX11_jokes 68 = .ok (.iconst 1, 1) := by decide +kernel
theorem dX11_jokes_69 : decode cX11_jokes 69 = .ok (.iconst 2, 1) := by decide +kernel
theorem dX11_jokes_70 : decode cX11_jokes 70 = .ok (.iload_n 3, 1) := by decide +kernel
theorem dX11_jokes_71 : decode cX11_jokes 71 = .ok (.imul, 1) := by decide +kernel
theorem dX11_jokes_72 : decode cX11_jokes 72 = .ok (.ishl, 1) := by decide +kernel
theorem dX11_jokes_73 : decode cX11_jokes 73 = .ok (.istore 5, 2) := by decide +kernel
theorem dX11_jokes_75 : decode cX11_jokes 75 = .ok (.iconst 0, 1) := by decide +kernel
theorem dX11_jokes_76 : decode cX11_jokes 76 = .ok (.istore 6, 2) := by decide +kernel
theorem dX11_jokes_78 : decode cX11_jokes 78 = .ok (.iload 6, 2) := by decide +kernel
theorem dX11_jokes_80 : decode cX11_jokes 80 = .ok (.iconst 2, 1) := by decide +kernel
theorem dX11_jokes_81 : decode cX11_jokes 81 = .ok (.iload_n 3, 1) := by decide +kernel
theorem dX11_jokes_82 : decode cX11_jokes 82 = .ok (.imul, 1) := by decide +kernel
theorem dX11_jokes_83 : decode cX11_jokes 83 = .ok (.if_icmp .ge 28, 3) := by decide +kernel
theorem dX11_jokes_86 : decode cX11_jokes 86 = .ok (.iload 4, 2) := by decide +kernel
theorem dX11_jokes_88 : decode cX11_jokes 88 = .ok (.iconst 2, 1) := by decide +kernel
theorem dX11_jokes_89 : decode cX11_jokes 89 = .ok (.irem, 1) := by decide +kernel
theorem dX11_jokes_90 : decode cX11_jokes 90 = .ok (.ifCond .ne 21, 3) := by decide +kernel
theorem dX11_jokes_93 : decode cX11_jokes 93 = .ok (.iload 4, 2) := by decide +kernel
theorem dX11_jokes_95 : decode cX11_jokes 95 = .ok (.iconst 2, 1) := by decide +kernel
theorem dX11_jokes_96 : decode cX11_jokes 96 = .ok (.idiv, 1) := by decide +kernel
theorem dX11_jokes_97 : decode cX11_jokes 97 = .ok (.istore 4, 2) := by decide +kernel
theorem dX11_jokes_99 : decode cX11_jokes 99 = .ok (.iload 5, 2) := by decide +kernel
theorem dX11_jokes_101 : decode cX11_jokes 101 = .ok (.iconst 2, 1) := by decide +kernel
theorem dX11_jokes_102 : decode cX11_jokes 102 = .ok (.idiv, 1) := by decide +kernel
theorem dX11_jokes_103 : decode cX11_jokes 103 = .ok (.istore 5, 2) := by decide +kernel
theorem dX11_jokes_105 : decode cX11_jokes 105 = .ok (.iinc 6 1, 3) := by decide +kernel
theorem dX11_jokes_108 : decode cX11_jokes 108 = .ok (.goto (-30), 3) := by decide +kernel
theorem dX11_jokes_111 : decode cX11_jokes 111 = .ok (.iload_n 2, 1) := by decide +kernel
theorem dX11_jokes_112 : decode cX11_jokes 112 = .ok (.ifCond .ne 8, 3) := by decide +kernel
theorem dX11_jokes_115 : decode cX11_jokes 115 = .ok (.iload 4, 2) := by decide +kernel
theorem dX11_jokes_117 : decode cX11_jokes 117 = .ok (.goto 5, 3) := by decide +kernel
theorem dX11_jokes_120 : decode cX11_jokes 120 = .ok (.iload 5, 2) := by decide +kernel
theorem dX11_jokes_122 : decode cX11_jokes 122 = .ok (.ireturn, 1) := by decide +kernel
theorem dX11_foes_0 : decode cX11_foes 0 = .ok (.iconst 0, 1) := by decide +kernel
theorem dX11_foes_1 : decode cX11_foes 1 = .ok (.istore_n 2, 1) := by decide +kernel
theorem dX11_foes_2 : decode cX11_foes 2 = .ok (.iconst 0, 1) := by decide +kernel
theorem dX11_foes_3 : decode cX11_foes 3 = .ok (.istore_n 3, 1) := by decide +kernel
theorem dX11_foes_4 : decode cX11_foes 4 = .ok (.iload_n 3, 1) := by decide +kernel
theorem dX11_foes_5 : decode cX11_foes 5 = .ok (.aload_n 0, 1) := by decide +kernel
theorem dX11_foes_6 : decode cX11_foes 6 = .ok (.getfield 42, 3) := by decide +kernel
theorem dX11_foes_9 : decode cX11_foes 9 = .ok (.getfield 139, 3) := by decide +kernel
theorem dX11_foes_12 : decode cX11_foes 12 = .ok (.getfield 244, 3) := by decide +kernel
theorem dX11_foes_15 : decode cX11_foes 15 = .ok (.if_icmp .ge 64, 3) := by decide +kernel
theorem dX11_foes_18 : decode cX11_foes 18 = .ok (.iload_n 3, 1) := by decide +kernel
theorem dX11_foes_19 : decode cX11_foes 19 = .ok (.iconst 1, 1) := by decide +kernel
theorem dX11_foes_20 : decode cX11_foes 20 = .ok (.iadd, 1) := by decide +kernel
theorem dX11_foes_21 : decode cX11_foes 21 = .ok (.istore 4, 2) := by decide +kernel
theorem dX11_foes_23 : decode cX11_foes 23 = .ok (.iload 4, 2) := by decide +kernel
theorem dX11_foes_25 : decode cX11_foes 25 = .ok (.aload_n 0, 1) := by decide +kernel
theorem dX11_foes_26 : decode cX11_foes 26 = .ok (.getfield 42, 3) := by decide +kernel
theorem dX11_foes_29 : decode cX11_foes 29 = .ok (.getfield 139, 3) := by decide +kernel
theorem dX11_foes_32 : decode cX11_foes 32 = .ok (.getfield 244, 3) := by decide +kernel
theorem dX11_foes_35 : decode cX11_foes 35 = .ok (.if_icmp .ge 38, 3) := by decide +kernel
theorem dX11_foes_38 : decode cX11_foes 38 = .ok (.aload_n 0, 1) := by decide +kernel
theorem dX11_foes_39 : decode cX11_foes 39 = .ok (.getfield 42, 3) := by decide +kernel
theorem dX11_foes_42 : decode cX11_foes 42 = .ok (.iload_n 3, 1) := by decide +kernel
theorem dX11_foes_43 : decode cX11_foes 43 = .ok (.iload 4, 2) := by decide +kernel
theorem dX11_foes_45 : decode cX11_foes 45 = .ok (.invokevirtual 263, 3) := by decide +kernel
theorem dX11_foes_48 : decode cX11_foes 48 = .ok (.ifCond .eq 19, 3) := by decide +kernel
theorem dX11_foes_51 : decode cX11_foes 51 = .ok (.iload_n 2, 1) := by decide +kernel
theorem dX11_foes_52 : decode cX11_foes 52 = .ok (.iload_n 1, 1) := by decide +kernel
theorem dX11_foes_53 : decode cX11_foes 53 = .ok (.if_icmp .ne 11, 3) := by decide +kernel
theorem dX11_foes_56 : decode cX11_foes 56 = .ok (.bipush 10, 2) := by decide +kernel
theorem dX11_foes_58 : decode cX11_foes 58 = .ok (.iload_n 3, 1) := by decide +kernel
theorem dX11_foes_59 : decode cX11_foes 59 = .ok (.imul, 1) := by decide +kernel
theorem dX11_foes_60 : decode cX11_foes 60 = .ok (.iload 4, 2) := by decide +kernel
theorem dX11_foes_62 : decode cX11_foes 62 = .ok (.iadd, 1) := by decide +kernel
theorem dX11_foes_63 : decode cX11_foes 63 = .ok (.ireturn, 1) := by decide +kernel
theorem dX11_foes_64 : decode cX11_foes 64 = .ok (.iinc 2 1, 3) := by decide +kernel
theorem dX11_foes_67 : decode cX11_foes 67 = .ok (.iinc 4 1, 3) := by decide +kernel
theorem dX11_foes_70 : decode cX11_foes 70 = .ok (.goto (-47), 3) := by decide +kernel
theorem dX11_foes_73 : decode cX11_foes 73 = .ok (.iinc 3 1, 3) := by decide +kernel
theorem dX11_foes_76 : decode cX11_foes 76 = .ok (.goto (-72), 3) := by decide +kernel
theorem dX11_foes_79 : decode cX11_foes 79 = .ok (.iload_n 1, 1) := by decide +kernel
theorem dX11_foes_80 : decode cX11_foes 80 = .ok (.iconst (-1), 1) := by decide +kernel
theorem dX11_foes_81 : decode cX11_foes 81 = .ok (.if_icmp .ne 7, 3) := by decide +kernel
theorem dX11_foes_84 : decode cX11_foes 84 = .ok (.iload_n 2, 1) := by decide +kernel
theorem dX11_foes_85 : decode cX11_foes 85 = .ok (.goto 4, 3) := by decide +kernel
theorem dX11_foes_88 : decode cX11_foes 88 = .ok (.iconst (-1), 1) := by decide +kernel
theorem dX11_foes_89 : decode cX11_foes 89 = .ok (.ireturn, 1) := by decide +kernel
theorem dX11_drawn_0 : decode cX11_drawn 0 = .ok (.iload_n 1, 1) := by decide +kernel
theorem dX11_drawn_1 : decode cX11_drawn 1 = .ok (.iconst 1, 1) := by decide +kernel
theorem dX11_drawn_2 : decode cX11_drawn 2 = .ok (.if_icmp .lt 22, 3) := by decide +kernel
theorem dX11_drawn_5 : decode cX11_drawn 5 = .ok (.iload_n 1, 1) := by decide +kernel
theorem dX11_drawn_6 : decode cX11_drawn 6 = .ok (.bipush 40, 2) := by decide +kernel
theorem dX11_drawn_8 : decode cX11_drawn 8 = .ok (.if_icmp .gt 16, 3) := by decide +kernel
theorem dX11_drawn_11 : decode cX11_drawn 11 = .ok (.aload_n 0, 1) := by decide +kernel
theorem dX11_drawn_12 : decode cX11_drawn 12 = .ok (.getfield 42, 3) := by decide +kernel
theorem dX11_drawn_15 : decode cX11_drawn 15 = .ok (.getfield 139, 3) := by decide +kernel
theorem dX11_drawn_18 : decode cX11_drawn 18 = .ok (.getfield 244, 3) := by decide +kernel
theorem dX11_drawn_21 : decode cX11_drawn 21 = .ok (.ifCond .ne 5, 3) := by decide +kernel
theorem dX11_drawn_24 : decode cX11_drawn 24 = .ok (.iconst (-1), 1) := by decide +kernel
theorem dX11_drawn_25 : decode cX11_drawn 25 = .ok (.ireturn, 1) := by decide +kernel
theorem dX11_drawn_26 : decode cX11_drawn 26 = .ok (.aload_n 0, 1) := by decide +kernel
theorem dX11_drawn_27 : decode cX11_drawn 27 = .ok (.invokevirtual 266, 3) := by decide +kernel
theorem dX11_drawn_30 : decode cX11_drawn 30 = .ok (.aload_n 0, 1) := by decide +kernel
theorem dX11_drawn_31 : decode cX11_drawn 31 = .ok (.getfield 42, 3) := by decide +kernel
theorem dX11_drawn_34 : decode cX11_drawn 34 = .ok (.iload_n 1, 1) := by decide +kernel
theorem dX11_drawn_35 : decode cX11_drawn 35 = .ok (.iload_n 2, 1) := by decide +kernel
theorem dX11_drawn_36 : decode cX11_drawn 36 = .ok (.invokevirtual 269, 3) := by decide +kernel
theorem dX11_drawn_39 : decode cX11_drawn 39 = .ok (.ireturn, 1) := by decide +kernel
theorem dX11_odds_0 : decode cX11_odds 0 = .ok (.aload_n 0, 1) := by decide +kernel
theorem dX11_odds_1 : decode cX11_odds 1 = .ok (.getfield 42, 3) := by decide +kernel
theorem dX11_odds_4 : decode cX11_odds 4 = .ok (.iload_n 1, 1) := by decide +kernel
theorem dX11_odds_5 : decode cX11_odds 5 = .ok (.invokevirtual 122, 3) := by decide +kernel
theorem dX11_odds_8 : decode cX11_odds 8 = .ok (.ifCond .eq 14, 3) := by decide +kernel
theorem dX11_odds_11 : decode cX11_odds 11 = .ok (.iload_n 2, 1) := by decide +kernel
theorem dX11_odds_12 : decode cX11_odds 12 = .ok (.iconst 1, 1) := by decide +kernel
theorem dX11_odds_13 : decode cX11_odds 13 = .ok (.if_icmp .lt 9, 3) := by decide +kernel
theorem dX11_odds_16 : decode cX11_odds 16 = .ok (.iload_n 2, 1) := by decide +kernel
theorem dX11_odds_17 : decode cX11_odds 17 = .ok (.bipush 40, 2) := by decide +kernel
theorem dX11_odds_19 : decode cX11_odds 19 = .ok (.if_icmp .le 5, 3) := by decide +kernel
theorem dX11_odds_22 : decode cX11_odds 22 = .ok (.iconst (-1), 1) := by decide +kernel
theorem dX11_odds_23 : decode cX11_odds 23 = .ok (.ireturn, 1) := by decide +kernel
theorem dX11_odds_24 : decode cX11_odds 24 = .ok (.iconst 0, 1) := by decide +kernel
theorem dX11_odds_25 : decode cX11_odds 25 = .ok (.istore 4, 2) := by decide +kernel
theorem dX11_odds_27 : decode cX11_odds 27 = .ok (.aload_n 0, 1) := by decide +kernel
theorem dX11_odds_28 : decode cX11_odds 28 = .ok (.getfield 49, 3) := by decide +kernel
theorem dX11_odds_31 : decode cX11_odds 31 = .ok (.aload_n 0, 1) := by decide +kernel
theorem dX11_odds_32 : decode cX11_odds 32 = .ok (.getfield 42, 3) := by decide +kernel
theorem dX11_odds_35 : decode cX11_odds 35 = .ok (.getfield 129, 3) := by decide +kernel
theorem dX11_odds_38 : decode cX11_odds 38 = .ok (.invokevirtual 206, 3) := by decide +kernel
theorem dX11_odds_41 : decode cX11_odds 41 = .ok (.iconst 0, 1) := by decide +kernel
theorem dX11_odds_42 : decode cX11_odds 42 = .ok (.istore 5, 2) := by decide +kernel
theorem dX11_odds_44 : decode cX11_odds 44 = .ok (.iload 5, 2) := by decide +kernel
theorem dX11_odds_46 : decode cX11_odds 46 = .ok (.iload_n 2, 1) := by decide +kernel
theorem dX11_odds_47 : decode cX11_odds 47 = .ok (.if_icmp .ge 56, 3) := by decide +kernel
theorem dX11_odds_50 : decode cX11_odds 50 = .ok (.aload_n 0, 1) := by decide +kernel
theorem dX11_odds_51 : decode cX11_odds 51 = .ok (.getfield 42, 3) := by decide +kernel
theorem dX11_odds_54 : decode cX11_odds 54 = .ok (.bipush 20, 2) := by decide +kernel
theorem dX11_odds_56 : decode cX11_odds 56 = .ok (.iload_n 3, 1) := by decide +kernel
theorem dX11_odds_57 : decode cX11_odds 57 = .ok (.iload 5, 2) := by decide +kernel
theorem dX11_odds_59 : decode cX11_odds 59 = .ok (.iadd, 1) := by decide +kernel
theorem dX11_odds_60 : decode cX11_odds 60 = .ok (.invokevirtual 269, 3) := by decide +kernel
theorem dX11_odds_63 : decode cX11_odds 63 = .ok (.pop, 1) := by decide +kernel
theorem dX11_odds_64 : decode cX11_odds 64 = .ok (.iload 4, 2) := by decide +kernel
theorem dX11_odds_66 : decode cX11_odds 66 = .ok (.aload_n 0, 1) := by decide +kernel
theorem dX11_odds_67 : decode cX11_odds 67 = .ok (.getfield 42, 3) := by decide +kernel
theorem dX11_odds_70 : decode cX11_odds 70 = .ok (.getfield 129, 3) := by decide +kernel
theorem dX11_odds_73 : decode cX11_odds 73 = .ok (.getfield 132, 3) := by decide +kernel
theorem dX11_odds_76 : decode cX11_odds 76 = .ok (.iload_n 1, 1) := by decide +kernel
theorem dX11_odds_77 : decode cX11_odds 77 = .ok (.invokestatic 135, 3) := by decide +kernel
theorem dX11_odds_80 : decode cX11_odds 80 = .ok (.iadd, 1) := by decide +kernel
theorem dX11_odds_81 : decode cX11_odds 81 = .ok (.istore 4, 2) := by decide +kernel
theorem dX11_odds_83 : decode cX11_odds 83 = .ok (.aload_n 0, 1) := by decide +kernel
theorem dX11_odds_84 : decode cX11_odds 84 = .ok (.getfield 42, 3) := by decide +kernel
theorem dX11_odds_87 : decode cX11_odds 87 = .ok (.getfield 129, 3) := by decide +kernel
theorem dX11_odds_90 : decode cX11_odds 90 = .ok (.aload_n 0, 1) := by decide +kernel
theorem dX11_odds_91 : decode cX11_odds 91 = .ok (.getfield 49, 3) := by decide +kernel
theorem dX11_odds_94 : decode cX11_odds 94 = .ok (.invokevirtual 206, 3) := by decide +kernel
theorem dX11_odds_97 : decode cX11_odds 97 = .ok (.iinc 5 1, 3) := by decide +kernel
theorem dX11_odds_100 : decode cX11_odds 100 = .ok (.goto (-56), 3) := by decide +kernel
theorem dX11_odds_103 : decode cX11_odds 103 = .ok (.iload 4, 2) := by decide +kernel
theorem dX11_odds_105 : decode cX11_odds 105 = .ok (.ireturn, 1) := by decide +kernel
theorem dX11_log_0 : decode cX11_log 0 = .ok (.iload_n 1, 1) := by decide +kernel
theorem dX11_log_1 : decode cX11_log 1 = .ok (.ifCond .eq 12, 3) := by decide +kernel
theorem dX11_log_4 : decode cX11_log 4 = .ok (.iload_n 1, 1) := by decide +kernel
theorem dX11_log_5 : decode cX11_log 5 = .ok (.iconst 1, 1) := by decide +kernel
theorem dX11_log_6 : decode cX11_log 6 = .ok (.if_icmp .eq 7, 3) := by decide +kernel
theorem dX11_log_9 : decode cX11_log 9 = .ok (.sipush (-1000), 3) := by decide +kernel
theorem dX11_log_12 : decode cX11_log 12 = .ok (.ireturn, 1) := by decide +kernel
theorem dX11_log_13 : decode cX11_log 13 = .ok (.aload_n 0, 1) := by decide +kernel
theorem dX11_log_14 : decode cX11_log 14 = .ok (.getfield 28, 3) := by decide +kernel
theorem dX11_log_17 : decode cX11_log 17 = .ok (.aload_n 0, 1) := by decide +kernel
theorem dX11_log_18 : decode cX11_log 18 = .ok (.getfield 42, 3) := by decide +kernel
theorem dX11_log_21 : decode cX11_log 21 = .ok (.getfield 139, 3) := by decide +kernel
theorem dX11_log_24 : decode cX11_log 24 = .ok (.invokevirtual 272, 3) := by decide +kernel
theorem dX11_log_27 : decode cX11_log 27 = .ok (.istore_n 2, 1) := by decide +kernel
theorem dX11_log_28 : decode cX11_log 28 = .ok (.aload_n 0, 1) := by decide +kernel
theorem dX11_log_29 : decode cX11_log 29 = .ok (.aload_n 0, 1) := by decide +kernel
theorem dX11_log_30 : decode cX11_log 30 = .ok (.getfield 28, 3) := by decide +kernel
theorem dX11_log_33 : decode cX11_log 33 = .ok (.getfield 275, 3) := by decide +kernel
theorem dX11_log_36 : decode cX11_log 36 = .ok (.putfield 102, 3) := by decide +kernel
theorem dX11_log_39 : decode cX11_log 39 = .ok (.aload_n 0, 1) := by decide +kernel
theorem dX11_log_40 : decode cX11_log 40 = .ok (.getfield 12, 3) := by decide +kernel
theorem dX11_log_43 : decode cX11_log 43 = .ok (.iconst 0, 1) := by decide +kernel
theorem dX11_log_44 : decode cX11_log 44 = .ok (.putfield 88, 3) := by decide +kernel
theorem dX11_log_47 : decode cX11_log 47 = .ok (.iload_n 2, 1) := by decide +kernel
theorem dX11_log_48 : decode cX11_log 48 = .ok (.ifCond .ne 14, 3) := by decide +kernel
theorem dX11_log_51 : decode cX11_log 51 = .ok (.bipush (-2), 2) := by decide +kernel
theorem dX11_log_53 : decode cX11_log 53 = .ok (.aload_n 0, 1) := by decide +kernel
theorem dX11_log_54 : decode cX11_log 54 = .ok (.getfield 12, 3) := by decide +kernel
theorem dX11_log_57 : decode cX11_log 57 = .ok (.getfield 105, 3) := by decide +kernel
theorem dX11_log_60 : decode cX11_log 60 = .ok (.isub, 1) := by decide +kernel
theorem dX11_log_61 : decode cX11_log 61 = .ok (.ireturn, 1) := by decide +kernel
theorem dX11_log_62 : decode cX11_log 62 = .ok (.iload_n 1, 1) := by decide +kernel
theorem dX11_log_63 : decode cX11_log 63 = .ok (.iconst 1, 1) := by decide +kernel
theorem dX11_log_64 : decode cX11_log 64 = .ok (.if_icmp .ne 10, 3) := by decide +kernel
theorem dX11_log_67 : decode cX11_log 67 = .ok (.aload_n 0, 1) := by decide +kernel
theorem dX11_log_68 : decode cX11_log 68 = .ok (.invokevirtual 266, 3) := by decide +kernel
theorem dX11_log_71 : decode cX11_log 71 = .ok (.goto 17, 3) := by decide +kernel
theorem dX11_log_74 : decode cX11_log 74 = .ok (.aload_n 0, 1) := by decide +kernel
theorem dX11_log_75 : decode cX11_log 75 = .ok (.getfield 49, 3) := by decide +kernel
theorem dX11_log_78 : decode cX11_log 78 = .ok (.aload_n 0, 1) := by decide +kernel
theorem dX11_log_79 : decode cX11_log 79 = .ok (.getfield 42, 3) := by decide +kernel
theorem dX11_log_82 : decode cX11_log 82 = .ok (.getfield 129, 3) := by decide +kernel
theorem dX11_log_85 : decode cX11_log 85 = .ok (.invokevirtual 206, 3) := by decide +kernel
theorem dX11_log_88 : decode cX11_log 88 = .ok (.aload_n 0, 1) := by decide +kernel
theorem dX11_log_89 : decode cX11_log 89 = .ok (.invokevirtual 276, 3) := by decide +kernel
theorem dX11_log_92 : decode cX11_log 92 = .ok (.istore_n 3, 1) := by decide +kernel
theorem dX11_log_93 : decode cX11_log 93 = .ok (.iload_n 1, 1) := by decide +kernel
theorem dX11_log_94 : decode cX11_log 94 = .ok (.ifCond .ne 17, 3) := by decide +kernel
theorem dX11_log_97 : decode cX11_log 97 = .ok (.aload_n 0, 1) := by decide +kernel
theorem dX11_log_98 : decode cX11_log 98 = .ok (.getfield 42, 3) := by decide +kernel
theorem dX11_log_101 : decode cX11_log 101 = .ok (.getfield 129, 3) := by decide +kernel
theorem dX11_log_104 : decode cX11_log 104 = .ok (.aload_n 0, 1) := by decide +kernel
theorem dX11_log_105 : decode cX11_log 105 = .ok (.getfield 49, 3) := by decide +kernel
theorem dX11_log_108 : decode cX11_log 108 = .ok (.invokevirtual 206, 3) := by decide +kernel
theorem dX11_log_111 : decode cX11_log 111 = .ok (.iload_n 3, 1) := by decide +kernel
theorem dX11_log_112 : decode cX11_log 112 = .ok (.ireturn, 1) := by decide +kernel
theorem dX11_logged_0 : decode cX11_logged 0 = .ok (.iload_n 1, 1) := by decide +kernel
theorem dX11_logged_1 : decode cX11_logged 1 = .ok (.ifCond .lt 12, 3) := by decide +kernel
theorem dX11_logged_4 : decode cX11_logged 4 = .ok (.iload_n 1, 1) := by decide +kernel
theorem dX11_logged_5 : decode cX11_logged 5 = .ok (.aload_n 0, 1) := by decide +kernel
theorem dX11_logged_6 : decode cX11_logged 6 = .ok (.getfield 85, 3) := by decide +kernel
theorem dX11_logged_9 : decode cX11_logged 9 = .ok (.arraylength, 1) := by decide +kernel
theorem dX11_logged_10 : decode cX11_logged 10 = .ok (.if_icmp .lt 7, 3) := by decide +kernel
theorem dX11_logged_13 : decode cX11_logged 13 = .ok (.iconst (-1), 1) := by decide +kernel
theorem dX11_logged_14 : decode cX11_logged 14 = .ok (.goto 9, 3) := by decide +kernel
theorem dX11_logged_17 : decode cX11_logged 17 = .ok (.aload_n 0, 1) := by decide +kernel
theorem dX11_logged_18 : decode cX11_logged 18 = .ok (.getfield 85, 3) := by decide +kernel
theorem dX11_logged_21 : decode cX11_logged 21 = .ok (.iload_n 1, 1) := by decide +kernel
theorem dX11_logged_22 : decode cX11_logged 22 = .ok (.iaload, 1) := by decide +kernel
theorem dX11_logged_23 : decode cX11_logged 23 = .ok (.ireturn, 1) := by decide +kernel
theorem dX11_sentence_0 : decode cX11_sentence 0 = .ok (.aload_n 0, 1) := by decide +kernel
theorem dX11_sentence_1 : decode cX11_sentence 1 = .ok (.getfield 35, 3) := by decide +kernel
theorem dX11_sentence_4 : decode cX11_sentence 4 = .ok (.aload_n 0, 1) := by decide +kernel
theorem dX11_sentence_5 : decode cX11_sentence 5 = .ok (.getfield 42, 3) := by decide +kernel
theorem dX11_sentence_8 : decode cX11_sentence 8 = .ok (.getfield 139, 3) := by decide +kernel
theorem dX11_sentence_11 : decode cX11_sentence 11 = .ok (.invokevirtual 279, 3) := by decide +kernel
theorem dX11_sentence_14 : decode cX11_sentence 14 = .ok (.istore_n 1, 1) := by decide +kernel
theorem dX11_sentence_15 : decode cX11_sentence 15 = .ok (.aload_n 0, 1) := by decide +kernel
theorem dX11_sentence_16 : decode cX11_sentence 16 = .ok (.aload_n 0, 1) := by decide +kernel
theorem dX11_sentence_17 : decode cX11_sentence 17 = .ok (.getfield 35, 3) := by decide +kernel
theorem dX11_sentence_20 : decode cX11_sentence 20 = .ok (.getfield 280, 3) := by decide +kernel
theorem dX11_sentence_23 : decode cX11_sentence 23 = .ok (.putfield 102, 3) := by decide +kernel
theorem dX11_sentence_26 : decode cX11_sentence 26 = .ok (.aload_n 0, 1) := by decide +kernel
theorem dX11_sentence_27 : decode cX11_sentence 27 = .ok (.getfield 12, 3) := by decide +kernel
theorem dX11_sentence_30 : decode cX11_sentence 30 = .ok (.iconst 0, 1) := by decide +kernel
theorem dX11_sentence_31 : decode cX11_sentence 31 = .ok (.putfield 88, 3) := by decide +kernel
theorem dX11_sentence_34 : decode cX11_sentence 34 = .ok (.iload_n 1, 1) := by decide +kernel
theorem dX11_sentence_35 : decode cX11_sentence 35 = .ok (.ifCond .ne 13, 3) := by decide +kernel
theorem dX11_sentence_38 : decode cX11_sentence 38 = .ok (.iconst (-1), 1) := by decide +kernel
theorem dX11_sentence_39 : decode cX11_sentence 39 = .ok (.aload_n 0, 1) := by decide +kernel
theorem dX11_sentence_40 : decode cX11_sentence 40 = .ok (.getfield 12, 3) := by decide +kernel
theorem dX11_sentence_43 : decode cX11_sentence 43 = .ok (.getfield 105, 3) := by decide +kernel
theorem dX11_sentence_46 : decode cX11_sentence 46 = .ok (.isub, 1) := by decide +kernel
theorem dX11_sentence_47 : decode cX11_sentence 47 = .ok (.ireturn, 1) := by decide +kernel
theorem dX11_sentence_48 : decode cX11_sentence 48 = .ok (.aload_n 0, 1) := by decide +kernel
theorem dX11_sentence_49 : decode cX11_sentence 49 = .ok (.getfield 42, 3) := by decide +kernel
theorem dX11_sentence_52 : decode cX11_sentence 52 = .ok (.getfield 281, 3) := by decide +kernel
theorem dX11_sentence_55 : decode cX11_sentence 55 = .ok (.aload_n 0, 1) := by decide +kernel
theorem dX11_sentence_56 : decode cX11_sentence 56 = .ok (.getfield 35, 3) := by decide +kernel
theorem dX11_sentence_59 : decode cX11_sentence 59 = .ok (.getfield 285, 3) := by decide +kernel
theorem dX11_sentence_62 : decode cX11_sentence 62 = .ok (.invokevirtual 288, 3) := by decide +kernel
theorem dX11_sentence_65 : decode cX11_sentence 65 = .ok (.aload_n 0, 1) := by decide +kernel
theorem dX11_sentence_66 : decode cX11_sentence 66 = .ok (.getfield 35, 3) := by decide +kernel
theorem dX11_sentence_69 : decode cX11_sentence 69 = .ok (.getfield 293, 3) := by decide +kernel
theorem dX11_sentence_72 : decode cX11_sentence 72 = .ok (.ireturn, 1) := by decide +kernel
theorem dX11_said_0 : decode cX11_said 0 = .ok (.aload_n 0, 1) := by decide +kernel
theorem dX11_said_1 : decode cX11_said 1 = .ok (.getfield 42, 3) := by decide +kernel
theorem dX11_said_4 : decode cX11_said 4 = .ok (.getfield 281, 3) := by decide +kernel
theorem dX11_said_7 : decode cX11_said 7 = .ok (.getfield 296, 3) := by decide +kernel
theorem dX11_said_10 : decode cX11_said 10 = .ok (.ifCond .ne 5, 3) := by decide +kernel
theorem dX11_said_13 : decode cX11_said 13 = .ok (.iconst (-1), 1) := by decide +kernel
theorem dX11_said_14 : decode cX11_said 14 = .ok (.ireturn, 1) := by decide +kernel
theorem dX11_said_15 : decode cX11_said 15 = .ok (.aload_n 0, 1) := by decide +kernel
theorem dX11_said_16 : decode cX11_said 16 = .ok (.getfield 42, 3) := by decide +kernel
theorem dX11_said_19 : decode cX11_said 19 = .ok (.getfield 281, 3) := by decide +kernel
theorem dX11_said_22 : decode cX11_said 22 = .ok (.aload_n 0, 1) := by decide +kernel
theorem dX11_said_23 : decode cX11_said 23 = .ok (.getfield 42, 3) := by decide +kernel
theorem dX11_said_26 : decode cX11_said 26 = .ok (.invokevirtual 297, 3) := by decide +kernel
theorem dX11_said_29 : decode cX11_said 29 = .ok (.istore_n 2, 1) := by decide +kernel
theorem dX11_said_30 : decode cX11_said 30 = .ok (.iconst 0, 1) := by decide +kernel
theorem dX11_said_31 : decode cX11_said 31 = .ok (.istore_n 3, 1) := by decide +kernel
theorem dX11_said_32 : decode cX11_said 32 = .ok (.iconst 0, 1) := by decide +kernel
theorem dX11_said_33 : decode cX11_said 33 = .ok (.istore 4, 2) := by decide +kernel
theorem dX11_said_35 : decode cX11_said 35 = .ok (.iload 4, 2) := by decide +kernel
theorem dX11_said_37 : decode cX11_said 37 = .ok (.aload_n 0, 1) := by decide +kernel
theorem dX11_said_38 : decode cX11_said 38 = .ok (.getfield 42, 3) := by decide +kernel
theorem dX11_said_41 : decode cX11_said 41 = .ok (.getfield 139, 3) := by decide +kernel
theorem dX11_said_44 : decode cX11_said 44 = .ok (.getfield 244, 3) := by decide +kernel
theorem dX11_said_47 : decode cX11_said 47 = .ok (.if_icmp .ge 30, 3) := by decide +kernel
theorem dX11_said_50 : decode cX11_said 50 = .ok (.iload_n 2, 1) := by decide +kernel
theorem dX11_said_51 : decode cX11_said 51 = .ok (.iload 4, 2) := by decide +kernel
theorem dX11_said_53 : decode cX11_said 53 = .ok (.invokestatic 135, 3) := by decide +kernel
theorem dX11_said_56 : decode cX11_said 56 = .ok (.iconst 1, 1) := by decide +kernel
theorem dX11_said_57 : decode cX11_said 57 = .ok (.if_icmp .ne 14, 3) := by decide +kernel
theorem dX11_said_60 : decode cX11_said 60 = .ok (.iload_n 3, 1) := by decide +kernel
theorem dX11_said_61 : decode cX11_said 61 = .ok (.iload_n 1, 1) := by decide +kernel
theorem dX11_said_62 : decode cX11_said 62 = .ok (.if_icmp .ne 6, 3) := by decide +kernel
theorem dX11_said_65 : decode cX11_said 65 = .ok (.iload 4, 2) := by decide +kernel
theorem dX11_said_67 : decode cX11_said 67 = .ok (.ireturn, 1) := by decide +kernel
theorem dX11_said_68 : decode cX11_said 68 = .ok (.iinc 3 1, 3) := by decide +kernel
theorem dX11_said_71 : decode cX11_said 71 = .ok (.iinc 4 1, 3) := by decide +kernel
theorem dX11_said_74 : decode cX11_said 74 = .ok (.goto (-39), 3) := by decide +kernel
theorem dX11_said_77 : decode cX11_said 77 = .ok (.iload_n 1, 1) := by decide +kernel
theorem dX11_said_78 : decode cX11_said 78 = .ok (.iconst (-1), 1) := by decide +kernel
theorem dX11_said_79 : decode cX11_said 79 = .ok (.if_icmp .ne 7, 3) := by decide +kernel
theorem dX11_said_82 : decode cX11_said 82 = .ok (.iload_n 3, 1) := by decide +kernel
theorem dX11_said_83 : decode cX11_said 83 = .ok (.goto 4, 3) := by decide +kernel
theorem dX11_said_86 : decode cX11_said 86 = .ok (.iconst (-1), 1) := by decide +kernel
theorem dX11_said_87 : decode cX11_said 87 = .ok (.ireturn, 1) := by decide +kernel
theorem dX11_image_0 : decode cX11_image 0 = .ok (.iload_n 1, 1) := by decide +kernel
theorem dX11_image_1 : decode cX11_image 1 = .ok (.ifCond .lt 8, 3) := by decide +kernel
theorem dX11_image_4 : decode cX11_image 4 = .ok (.iload_n 1, 1) := by decide +kernel
theorem dX11_image_5 : decode cX11_image 5 = .ok (.iconst 2, 1) := by decide +kernel
theorem dX11_image_6 : decode cX11_image 6 = .ok (.if_icmp .lt 5, 3) := by decide +kernel
theorem dX11_image_9 : decode cX11_image 9 = .ok (.iconst 0, 1) := by decide +kernel
theorem dX11_image_10 : decode cX11_image 10 = .ok (.ireturn, 1) := by decide +kernel
theorem dX11_image_11 : decode cX11_image 11 = .ok (.aload_n 0, 1) := by decide +kernel
theorem dX11_image_12 : decode cX11_image 12 = .ok (.getfield 64, 3) := by decide +kernel
theorem dX11_image_15 : decode cX11_image 15 = .ok (.iload_n 1, 1) := by decide +kernel
theorem dX11_image_16 : decode cX11_image 16 = .ok (.aaload, 1) := by decide +kernel
theorem dX11_image_17 : decode cX11_image 17 = .ok (.aload_n 0, 1) := by decide +kernel
theorem dX11_image_18 : decode cX11_image 18 = .ok (.getfield 42, 3) := by decide +kernel
theorem dX11_image_21 : decode cX11_image 21 = .ok (.invokevirtual 301, 3) := by decide +kernel
theorem dX11_image_24 : decode cX11_image 24 = .ok (.aload_n 0, 1) := by decide +kernel
theorem dX11_image_25 : decode cX11_image 25 = .ok (.dup, 1) := by decide +kernel
theorem dX11_image_26 : decode cX11_image 26 = .ok (.getfield 304, 3) := by decide +kernel
theorem dX11_image_29 : decode cX11_image 29 = .ok (.iconst 1, 1) := by decide +kernel
theorem dX11_image_30 : decode cX11_image 30 = .ok (.iload_n 1, 1) := by decide +kernel
theorem dX11_image_31 : decode cX11_image 31 = .ok (.ishl, 1) := by decide +kernel
theorem dX11_image_32 : decode cX11_image 32 = .ok (.ior, 1) := by decide +kernel
theorem dX11_image_33 : decode cX11_image 33 = .ok (.putfield 304, 3) := by decide +kernel
theorem dX11_image_36 : decode cX11_image 36 = .ok (.iconst 1, 1) := by decide +kernel
theorem dX11_image_37 : decode cX11_image 37 = .ok (.ireturn, 1) := by decide +kernel
theorem dX11_restore_0 : decode cX11_restore 0 = .ok (.iload_n 1, 1) := by decide +kernel
theorem dX11_restore_1 : decode cX11_restore 1 = .ok (.ifCond .lt 19, 3) := by decide +kernel
theorem dX11_restore_4 : decode cX11_restore 4 = .ok (.iload_n 1, 1) := by decide +kernel
theorem dX11_restore_5 : decode cX11_restore 5 = .ok (.iconst 2, 1) := by decide +kernel
theorem dX11_restore_6 : decode cX11_restore 6 = .ok (.if_icmp .ge 14, 3) := by decide +kernel
theorem dX11_restore_9 : decode cX11_restore 9 = .ok (.aload_n 0, 1) := by decide +kernel
theorem dX11_restore_10 : decode cX11_restore 10 = .ok (.getfield 304, 3) := by decide +kernel
theorem dX11_restore_13 : decode cX11_restore 13 = .ok (.iload_n 1, 1) := by decide +kernel
theorem dX11_restore_14 : decode cX11_restore 14 = .ok (.invokestatic 135, 3) := by decide +kernel
theorem dX11_restore_17 : decode cX11_restore 17 = .ok (.ifCond .ne 5, 3) := by decide +kernel
theorem dX11_restore_20 : decode cX11_restore 20 = .ok (.iconst 0, 1) := by decide +kernel
theorem dX11_restore_21 : decode cX11_restore 21 = .ok (.ireturn, 1) := by decide +kernel
theorem dX11_restore_22 : decode cX11_restore 22 = .ok (.aload_n 0, 1) := by decide +kernel
theorem dX11_restore_23 : decode cX11_restore 23 = .ok (.getfield 42, 3) := by decide +kernel
theorem dX11_restore_26 : decode cX11_restore 26 = .ok (.aload_n 0, 1) := by decide +kernel
theorem dX11_restore_27 : decode cX11_restore 27 = .ok (.getfield 64, 3) := by decide +kernel
theorem dX11_restore_30 : decode cX11_restore 30 = .ok (.iload_n 1, 1) := by decide +kernel
theorem dX11_restore_31 : decode cX11_restore 31 = .ok (.aaload, 1) := by decide +kernel
theorem dX11_restore_32 : decode cX11_restore 32 = .ok (.invokevirtual 301, 3) := by decide +kernel
theorem dX11_restore_35 : decode cX11_restore 35 = .ok (.aload_n 0, 1) := by decide +kernel
theorem dX11_restore_36 : decode cX11_restore 36 = .ok (.iconst 0, 1) := by decide +kernel
theorem dX11_restore_37 : decode cX11_restore 37 = .ok (.putfield 116, 3) := by decide +kernel
theorem dX11_restore_40 : decode cX11_restore 40 = .ok (.iconst 1, 1) := by decide +kernel
theorem dX11_restore_41 : decode cX11_restore 41 = .ok (.ireturn, 1) := by decide +kernel
theorem dX11_count_0 : decode cX11_count 0 = .ok (.iload_n 1, 1) := by decide +kernel
theorem dX11_count_1 : decode cX11_count 1 = .ok (.tableswitch 102 0 5 #[39, 50, 61, 72, 83, 94], 39) := by decide +kernel
theorem dX11_count_40 : decode cX11_count 40 = .ok (.aload_n 0, 1) := by decide +kernel
theorem dX11_count_41 : decode cX11_count 41 = .ok (.getfield 42, 3) := by decide +kernel
theorem dX11_count_44 : decode cX11_count 44 = .ok (.getfield 139, 3) := by decide +kernel
theorem dX11_count_47 : decode cX11_count 47 = .ok (.getfield 235, 3) := by decide +kernel
theorem dX11_count_50 : decode cX11_count 50 = .ok (.ireturn, 1) := by decide +kernel
theorem dX11_count_51 : decode cX11_count 51 = .ok (.aload_n 0, 1) := by decide +kernel
theorem dX11_count_52 : decode cX11_count 52 = .ok (.getfield 42, 3) := by decide +kernel
theorem dX11_count_55 : decode cX11_count 55 = .ok (.getfield 139, 3) := by decide +kernel
theorem dX11_count_58 : decode cX11_count 58 = .ok (.getfield 244, 3) := by decide +kernel
theorem dX11_count_61 : decode cX11_count 61 = .ok (.ireturn, 1) := by decide +kernel
theorem dX11_count_62 : decode cX11_count 62 = .ok (.aload_n 0, 1) := by decide +kernel
theorem dX11_count_63 : decode cX11_count 63 = .ok (.getfield 42, 3) := by decide +kernel
theorem dX11_count_66 : decode cX11_count 66 = .ok (.getfield 139, 3) := by decide +kernel
theorem dX11_count_69 : decode cX11_count 69 = .ok (.getfield 307, 3) := by decide +kernel
theorem dX11_count_72 : decode cX11_count 72 = .ok (.ireturn, 1) := by decide +kernel
theorem dX11_count_73 : decode cX11_count 73 = .ok (.aload_n 0, 1) := by decide +kernel
theorem dX11_count_74 : decode cX11_count 74 = .ok (.getfield 42, 3) := by decide +kernel
theorem dX11_count_77 : decode cX11_count 77 = .ok (.getfield 139, 3) := by decide +kernel
theorem dX11_count_80 : decode cX11_count 80 = .ok (.getfield 310, 3) := by decide +kernel
theorem dX11_count_83 : decode cX11_count 83 = .ok (.ireturn, 1) := by decide +kernel
theorem dX11_count_84 : decode cX11_count 84 = .ok (.aload_n 0, 1) := by decide +kernel
theorem dX11_count_85 : decode cX11_count 85 = .ok (.getfield 42, 3) := by decide +kernel
theorem dX11_count_88 : decode cX11_count 88 = .ok (.getfield 139, 3) := by decide +kernel
theorem dX11_count_91 : decode cX11_count 91 = .ok (.getfield 313, 3) := by decide +kernel
theorem dX11_count_94 : decode cX11_count 94 = .ok (.ireturn, 1) := by decide +kernel
theorem dX11_count_95 : decode cX11_count 95 = .ok (.aload_n 0, 1) := by decide +kernel
theorem dX11_count_96 : decode cX11_count 96 = .ok (.getfield 12, 3) := by decide +kernel
theorem dX11_count_99 : decode cX11_count 99 = .ok (.getfield 88, 3) := by decide +kernel
theorem dX11_count_102 : decode cX11_count 102 = .ok (.ireturn, 1) := by decide +kernel
theorem dX11_count_103 : decode cX11_count 103 = .ok (.iconst (-1), 1) := by decide +kernel
theorem dX11_count_104 : decode cX11_count 104 = .ok (.ireturn, 1) := by decide +kernel
theorem dX11_bit_0 : decode cX11_bit 0 = .ok (.iload_n 0, 1) := by decide +kernel
theorem dX11_bit_1 : decode cX11_bit 1 = .ok (.iload_n 1, 1) := by decide +kernel
theorem dX11_bit_2 : decode cX11_bit 2 = .ok (.ishr, 1) := by decide +kernel
theorem dX11_bit_3 : decode cX11_bit 3 = .ok (.iconst 1, 1) := by decide +kernel
theorem dX11_bit_4 : decode cX11_bit 4 = .ok (.iand, 1) := by decide +kernel
theorem dX11_bit_5 : decode cX11_bit 5 = .ok (.ireturn, 1) := by decide +kernel
theorem dX11_canSpeak_0 : decode cX11_canSpeak 0 = .ok (.aload_n 0, 1) := by decide +kernel
theorem dX11_canSpeak_1 : decode cX11_canSpeak 1 = .ok (.getfield 42, 3) := by decide +kernel
theorem dX11_canSpeak_4 : decode cX11_canSpeak 4 = .ok (.iload_n 1, 1) := by decide +kernel
theorem dX11_canSpeak_5 : decode cX11_canSpeak 5 = .ok (.invokevirtual 122, 3) := by decide +kernel
theorem dX11_canSpeak_8 : decode cX11_canSpeak 8 = .ok (.ifCond .eq 30, 3) := by decide +kernel
theorem dX11_canSpeak_11 : decode cX11_canSpeak 11 = .ok (.aload_n 0, 1) := by decide +kernel
theorem dX11_canSpeak_12 : decode cX11_canSpeak 12 = .ok (.getfield 42, 3) := by decide +kernel
theorem dX11_canSpeak_15 : decode cX11_canSpeak 15 = .ok (.iload_n 2, 1) := by decide +kernel
theorem dX11_canSpeak_16 : decode cX11_canSpeak 16 = .ok (.invokevirtual 163, 3) := by decide +kernel
theorem dX11_canSpeak_19 : decode cX11_canSpeak 19 = .ok (.ifCond .eq 19, 3) := by decide +kernel
theorem dX11_canSpeak_22 : decode cX11_canSpeak 22 = .ok (.iload_n 3, 1) := by decide +kernel
theorem dX11_canSpeak_23 : decode cX11_canSpeak 23 = .ok (.bipush (-9), 2) := by decide +kernel
theorem dX11_canSpeak_25 : decode cX11_canSpeak 25 = .ok (.if_icmp .lt 13, 3) := by decide +kernel
theorem dX11_canSpeak_28 : decode cX11_canSpeak 28 = .ok (.iload_n 3, 1) := by decide +kernel
theorem dX11_canSpeak_29 : decode cX11_canSpeak 29 = .ok (.bipush 9, 2) := by decide +kernel
theorem dX11_canSpeak_31 : decode cX11_canSpeak 31 = .ok (.if_icmp .gt 7, 3) := by decide +kernel
theorem dX11_canSpeak_34 : decode cX11_canSpeak 34 = .ok (.iconst 1, 1) := by decide +kernel
theorem dX11_canSpeak_35 : decode cX11_canSpeak 35 = .ok (.goto 4, 3) := by decide +kernel
theorem dX11_canSpeak_38 : decode cX11_canSpeak 38 = .ok (.iconst 0, 1) := by decide +kernel
theorem dX11_canSpeak_39 : decode cX11_canSpeak 39 = .ok (.ireturn, 1) := by decide +kernel
theorem dX11_canSum_0 : decode cX11_canSum 0 = .ok (.aload_n 0, 1) := by decide +kernel
theorem dX11_canSum_1 : decode cX11_canSum 1 = .ok (.getfield 42, 3) := by decide +kernel
theorem dX11_canSum_4 : decode cX11_canSum 4 = .ok (.iload_n 1, 1) := by decide +kernel
theorem dX11_canSum_5 : decode cX11_canSum 5 = .ok (.invokevirtual 188, 3) := by decide +kernel
theorem dX11_canSum_8 : decode cX11_canSum 8 = .ok (.ifCond .eq 20, 3) := by decide +kernel
theorem dX11_canSum_11 : decode cX11_canSum 11 = .ok (.aload_n 0, 1) := by decide +kernel
theorem dX11_canSum_12 : decode cX11_canSum 12 = .ok (.getfield 42, 3) := by decide +kernel
theorem dX11_canSum_15 : decode cX11_canSum 15 = .ok (.getfield 139, 3) := by decide +kernel
theorem dX11_canSum_18 : decode cX11_canSum 18 = .ok (.getfield 235, 3) := by decide +kernel
theorem dX11_canSum_21 : decode cX11_canSum 21 = .ok (.ifCond .le 7, 3) := by decide +kernel
theorem dX11_canSum_24 : decode cX11_canSum 24 = .ok (.iconst 1, 1) := by decide +kernel
theorem dX11_canSum_25 : decode cX11_canSum 25 = .ok (.goto 4, 3) := by decide +kernel
theorem dX11_canSum_28 : decode cX11_canSum 28 = .ok (.iconst 0, 1) := by decide +kernel
theorem dX11_canSum_29 : decode cX11_canSum 29 = .ok (.ireturn, 1) := by decide +kernel
theorem dX11_attempt_0 : decode cX11_attempt 0 = .ok (.aload_n 0, 1) := by decide +kernel
theorem dX11_attempt_1 : decode cX11_attempt 1 = .ok (.getfield 42, 3) := by decide +kernel
theorem dX11_attempt_4 : decode cX11_attempt 4 = .ok (.iload_n 1, 1) := by decide +kernel
theorem dX11_attempt_5 : decode cX11_attempt 5 = .ok (.iload_n 2, 1) := by decide +kernel
theorem dX11_attempt_6 : decode cX11_attempt 6 = .ok (.iload_n 3, 1) := by decide +kernel
theorem dX11_attempt_7 : decode cX11_attempt 7 = .ok (.iload 4, 2) := by decide +kernel
theorem dX11_attempt_9 : decode cX11_attempt 9 = .ok (.invokevirtual 316, 3) := by decide +kernel
theorem dX11_attempt_12 : decode cX11_attempt 12 = .ok (.istore 5, 2) := by decide +kernel
theorem dX11_attempt_14 : decode cX11_attempt 14 = .ok (.iload 5, 2) := by decide +kernel
theorem dX11_attempt_16 : decode cX11_attempt 16 = .ok (.ifCond .ne 19, 3) := by decide +kernel
theorem dX11_attempt_19 : decode cX11_attempt 19 = .ok (.aload_n 0, 1) := by decide +kernel
theorem dX11_attempt_20 : decode cX11_attempt 20 = .ok (.invokevirtual 266, 3) := by decide +kernel
theorem dX11_attempt_23 : decode cX11_attempt 23 = .ok (.aload_n 0, 1) := by decide +kernel
theorem dX11_attempt_24 : decode cX11_attempt 24 = .ok (.getfield 42, 3) := by decide +kernel
theorem dX11_attempt_27 : decode cX11_attempt 27 = .ok (.iload_n 1, 1) := by decide +kernel
theorem dX11_attempt_28 : decode cX11_attempt 28 = .ok (.iload_n 2, 1) := by decide +kernel
theorem dX11_attempt_29 : decode cX11_attempt 29 = .ok (.iload_n 3, 1) := by decide +kernel
theorem dX11_attempt_30 : decode cX11_attempt 30 = .ok (.iload 4, 2) := by decide +kernel
theorem dX11_attempt_32 : decode cX11_attempt 32 = .ok (.invokevirtual 319, 3) := by decide +kernel
theorem dX11_attempt_35 : decode cX11_attempt 35 = .ok (.iload 5, 2) := by decide +kernel
theorem dX11_attempt_37 : decode cX11_attempt 37 = .ok (.ireturn, 1) := by decide +kernel
theorem dX11_remember_0 : decode cX11_remember 0 = .ok (.aload_n 0, 1) := by decide +kernel
theorem dX11_remember_1 : decode cX11_remember 1 = .ok (.getfield 60, 3) := by decide +kernel
theorem dX11_remember_4 : decode cX11_remember 4 = .ok (.aload_n 0, 1) := by decide +kernel
theorem dX11_remember_5 : decode cX11_remember 5 = .ok (.getfield 203, 3) := by decide +kernel
theorem dX11_remember_8 : decode cX11_remember 8 = .ok (.aload_n 0, 1) := by decide +kernel
theorem dX11_remember_9 : decode cX11_remember 9 = .ok (.getfield 116, 3) := by decide +kernel
theorem dX11_remember_12 : decode cX11_remember 12 = .ok (.iadd, 1) := by decide +kernel
theorem dX11_remember_13 : decode cX11_remember 13 = .ok (.bipush 8, 2) := by decide +kernel
theorem dX11_remember_15 : decode cX11_remember 15 = .ok (.irem, 1) := by decide +kernel
theorem dX11_remember_16 : decode cX11_remember 16 = .ok (.aaload, 1) := by decide +kernel
theorem dX11_remember_17 : decode cX11_remember 17 = .ok (.aload_n 0, 1) := by decide +kernel
theorem dX11_remember_18 : decode cX11_remember 18 = .ok (.getfield 42, 3) := by decide +kernel
theorem dX11_remember_21 : decode cX11_remember 21 = .ok (.getfield 129, 3) := by decide +kernel
theorem dX11_remember_24 : decode cX11_remember 24 = .ok (.invokevirtual 206, 3) := by decide +kernel
theorem dX11_remember_27 : decode cX11_remember 27 = .ok (.aload_n 0, 1) := by decide +kernel
theorem dX11_remember_28 : decode cX11_remember 28 = .ok (.getfield 116, 3) := by decide +kernel
theorem dX11_remember_31 : decode cX11_remember 31 = .ok (.bipush 8, 2) := by decide +kernel
theorem dX11_remember_33 : decode cX11_remember 33 = .ok (.if_icmp .ge 16, 3) := by decide +kernel
theorem dX11_remember_36 : decode cX11_remember 36 = .ok (.aload_n 0, 1) := by decide +kernel
theorem dX11_remember_37 : decode cX11_remember 37 = .ok (.dup, 1) := by decide +kernel
theorem dX11_remember_38 : decode cX11_remember 38 = .ok (.getfield 116, 3) := by decide +kernel
theorem dX11_remember_41 : decode cX11_remember 41 = .ok (.iconst 1, 1) := by decide +kernel
theorem dX11_remember_42 : decode cX11_remember 42 = .ok (.iadd, 1) := by decide +kernel
theorem dX11_remember_43 : decode cX11_remember 43 = .ok (.putfield 116, 3) := by decide +kernel
theorem dX11_remember_46 : decode cX11_remember 46 = .ok (.goto 16, 3) := by decide +kernel
theorem dX11_remember_49 : decode cX11_remember 49 = .ok (.aload_n 0, 1) := by decide +kernel
theorem dX11_remember_50 : decode cX11_remember 50 = .ok (.aload_n 0, 1) := by decide +kernel
theorem dX11_remember_51 : decode cX11_remember 51 = .ok (.getfield 203, 3) := by decide +kernel
theorem dX11_remember_54 : decode cX11_remember 54 = .ok (.iconst 1, 1) := by decide +kernel
theorem dX11_remember_55 : decode cX11_remember 55 = .ok (.iadd, 1) := by decide +kernel
theorem dX11_remember_56 : decode cX11_remember 56 = .ok (.bipush 8, 2) := by decide +kernel
theorem dX11_remember_58 : decode cX11_remember 58 = .ok (.irem, 1) := by decide +kernel
theorem dX11_remember_59 : decode cX11_remember 59 = .ok (.putfield 203, 3) := by decide +kernel
theorem dX11_remember_62 : decode cX11_remember 62 = .ok (.return_, 1) := by decide +kernel
theorem dX11_lookForCrews_0 : decode cX11_lookForCrews 0 = .ok (.aload_n 0, 1) := by decide +kernel
theorem dX11_lookForCrews_1 : decode cX11_lookForCrews 1 = .ok (.getfield 42, 3) := by decide +kernel
theorem dX11_lookForCrews_4 : decode cX11_lookForCrews 4 = .ok (.getfield 139, 3) := by decide +kernel
theorem dX11_lookForCrews_7 : decode cX11_lookForCrews 7 = .ok (.getfield 235, 3) := by decide +kernel
theorem dX11_lookForCrews_10 : decode cX11_lookForCrews 10 = .ok (.ifCond .ne 5, 3) := by decide +kernel
theorem dX11_lookForCrews_13 : decode cX11_lookForCrews 13 = .ok (.iconst 0, 1) := by decide +kernel
theorem dX11_lookForCrews_14 : decode cX11_lookForCrews 14 = .ok (.ireturn, 1) := by decide +kernel
theorem dX11_lookForCrews_15 : decode cX11_lookForCrews 15 = .ok (.aload_n 0, 1) := by decide +kernel
theorem dX11_lookForCrews_16 : decode cX11_lookForCrews 16 = .ok (.getfield 56, 3) := by decide +kernel
theorem dX11_lookForCrews_19 : decode cX11_lookForCrews 19 = .ok (.aload_n 0, 1) := by decide +kernel
theorem dX11_lookForCrews_20 : decode cX11_lookForCrews 20 = .ok (.getfield 42, 3) := by decide +kernel
theorem dX11_lookForCrews_23 : decode cX11_lookForCrews 23 = .ok (.aload_n 0, 1) := by decide +kernel
theorem dX11_lookForCrews_24 : decode cX11_lookForCrews 24 = .ok (.getfield 42, 3) := by decide +kernel
theorem dX11_lookForCrews_27 : decode cX11_lookForCrews 27 = .ok (.getfield 129, 3) := by decide +kernel
theorem dX11_lookForCrews_30 : decode cX11_lookForCrews 30 = .ok (.getfield 175, 3) := by decide +kernel
theorem dX11_lookForCrews_33 : decode cX11_lookForCrews 33 = .ok (.invokevirtual 323, 3) := by decide +kernel
theorem dX11_lookForCrews_36 : decode cX11_lookForCrews 36 = .ok (.aload_n 0, 1) := by decide +kernel
theorem dX11_lookForCrews_37 : decode cX11_lookForCrews 37 = .ok (.getfield 42, 3) := by decide +kernel
theorem dX11_lookForCrews_40 : decode cX11_lookForCrews 40 = .ok (.invokevirtual 228, 3) := by decide +kernel
theorem dX11_lookForCrews_43 : decode cX11_lookForCrews 43 = .ok (.ireturn, 1) := by decide +kernel
theorem dX11_holdsSets_0 : decode cX11_holdsSets 0 = .ok (.iload_n 1, 1) := by decide +kernel
theorem dX11_holdsSets_1 : decode cX11_holdsSets 1 = .ok (.iconst 2, 1) := by decide +kernel
theorem dX11_holdsSets_2 : decode cX11_holdsSets 2 = .ok (.if_icmp .lt 15, 3) := by decide +kernel
theorem dX11_holdsSets_5 : decode cX11_holdsSets 5 = .ok (.iload_n 1, 1) := by decide +kernel
theorem dX11_holdsSets_6 : decode cX11_holdsSets 6 = .ok (.bipush 40, 2) := by decide +kernel
theorem dX11_holdsSets_8 : decode cX11_holdsSets 8 = .ok (.if_icmp .gt 9, 3) := by decide +kernel
theorem dX11_holdsSets_11 : decode cX11_holdsSets 11 = .ok (.iload_n 1, 1) := by decide +kernel
theorem dX11_holdsSets_12 : decode cX11_holdsSets 12 = .ok (.iconst 2, 1) := by decide +kernel
theorem dX11_holdsSets_13 : decode cX11_holdsSets 13 = .ok (.irem, 1) := by decide +kernel
theorem dX11_holdsSets_14 : decode cX11_holdsSets 14 = .ok (.ifCond .eq 5, 3) := by decide +kernel
theorem dX11_holdsSets_17 : decode cX11_holdsSets 17 = .ok (.iconst 0, 1) := by decide +kernel
theorem dX11_holdsSets_18 : decode cX11_holdsSets 18 = .ok (.ireturn, 1) := by decide +kernel
theorem dX11_holdsSets_19 : decode cX11_holdsSets 19 = .ok (.iconst 0, 1) := by decide +kernel
theorem dX11_holdsSets_20 : decode cX11_holdsSets 20 = .ok (.istore_n 2, 1) := by decide +kernel
theorem dX11_holdsSets_21 : decode cX11_holdsSets 21 = .ok (.iload_n 2, 1) := by decide +kernel
theorem dX11_holdsSets_22 : decode cX11_holdsSets 22 = .ok (.iload_n 1, 1) := by decide +kernel
theorem dX11_holdsSets_23 : decode cX11_holdsSets 23 = .ok (.if_icmp .ge 29, 3) := by decide +kernel
theorem dX11_holdsSets_26 : decode cX11_holdsSets 26 = .ok (.aload_n 0, 1) := by decide +kernel
theorem dX11_holdsSets_27 : decode cX11_holdsSets 27 = .ok (.getfield 42, 3) := by decide +kernel
theorem dX11_holdsSets_30 : decode cX11_holdsSets 30 = .ok (.aload_n 0, 1) := by decide +kernel
theorem dX11_holdsSets_31 : decode cX11_holdsSets 31 = .ok (.getfield 12, 3) := by decide +kernel
theorem dX11_holdsSets_34 : decode cX11_holdsSets 34 = .ok (.iload_n 2, 1) := by decide +kernel
theorem dX11_holdsSets_35 : decode cX11_holdsSets 35 = .ok (.invokevirtual 327, 3) := by decide +kernel
theorem dX11_holdsSets_38 : decode cX11_holdsSets 38 = .ok (.invokevirtual 188, 3) := by decide +kernel
theorem dX11_holdsSets_41 : decode cX11_holdsSets 41 = .ok (.ifCond .ne 5, 3) := by decide +kernel
theorem dX11_holdsSets_44 : decode cX11_holdsSets 44 = .ok (.iconst 0, 1) := by decide +kernel
theorem dX11_holdsSets_45 : decode cX11_holdsSets 45 = .ok (.ireturn, 1) := by decide +kernel
theorem dX11_holdsSets_46 : decode cX11_holdsSets 46 = .ok (.iinc 2 2, 3) := by decide +kernel
theorem dX11_holdsSets_49 : decode cX11_holdsSets 49 = .ok (.goto (-28), 3) := by decide +kernel
theorem dX11_holdsSets_52 : decode cX11_holdsSets 52 = .ok (.iconst 1, 1) := by decide +kernel
theorem dX11_holdsSets_53 : decode cX11_holdsSets 53 = .ok (.ireturn, 1) := by decide +kernel
theorem dX11_wouldFit_0 : decode cX11_wouldFit 0 = .ok (.aload_n 0, 1) := by decide +kernel
theorem dX11_wouldFit_1 : decode cX11_wouldFit 1 = .ok (.getfield 42, 3) := by decide +kernel
theorem dX11_wouldFit_4 : decode cX11_wouldFit 4 = .ok (.getfield 129, 3) := by decide +kernel
theorem dX11_wouldFit_7 : decode cX11_wouldFit 7 = .ok (.getfield 175, 3) := by decide +kernel
theorem dX11_wouldFit_10 : decode cX11_wouldFit 10 = .ok (.istore 4, 2) := by decide +kernel
theorem dX11_wouldFit_12 : decode cX11_wouldFit 12 = .ok (.aload_n 0, 1) := by decide +kernel
theorem dX11_wouldFit_13 : decode cX11_wouldFit 13 = .ok (.getfield 42, 3) := by decide +kernel
theorem dX11_wouldFit_16 : decode cX11_wouldFit 16 = .ok (.getfield 129, 3) := by decide +kernel
theorem dX11_wouldFit_19 : decode cX11_wouldFit 19 = .ok (.getfield 145, 3) := by decide +kernel
theorem dX11_wouldFit_22 : decode cX11_wouldFit 22 = .ok (.iload_n 1, 1) := by decide +kernel
theorem dX11_wouldFit_23 : decode cX11_wouldFit 23 = .ok (.invokestatic 135, 3) := by decide +kernel
theorem dX11_wouldFit_26 : decode cX11_wouldFit 26 = .ok (.iconst 1, 1) := by decide +kernel
theorem dX11_wouldFit_27 : decode cX11_wouldFit 27 = .ok (.if_icmp .ne 7, 3) := by decide +kernel
theorem dX11_wouldFit_30 : decode cX11_wouldFit 30 = .ok (.iconst 0, 1) := by decide +kernel
theorem dX11_wouldFit_31 : decode cX11_wouldFit 31 = .ok (.goto 15, 3) := by decide +kernel
theorem dX11_wouldFit_34 : decode cX11_wouldFit 34 = .ok (.iload_n 2, 1) := by decide +kernel
theorem dX11_wouldFit_35 : decode cX11_wouldFit 35 = .ok (.aload_n 0, 1) := by decide +kernel
theorem dX11_wouldFit_36 : decode cX11_wouldFit 36 = .ok (.getfield 42, 3) := by decide +kernel
theorem dX11_wouldFit_39 : decode cX11_wouldFit 39 = .ok (.iload_n 1, 1) := by decide +kernel
theorem dX11_wouldFit_40 : decode cX11_wouldFit 40 = .ok (.iload 4, 2) := by decide +kernel
theorem dX11_wouldFit_42 : decode cX11_wouldFit 42 = .ok (.invokevirtual 169, 3) := by decide +kernel
theorem dX11_wouldFit_45 : decode cX11_wouldFit 45 = .ok (.isub, 1) := by decide +kernel
theorem dX11_wouldFit_46 : decode cX11_wouldFit 46 = .ok (.istore 5, 2) := by decide +kernel
theorem dX11_wouldFit_48 : decode cX11_wouldFit 48 = .ok (.iconst 0, 1) := by decide +kernel
theorem dX11_wouldFit_49 : decode cX11_wouldFit 49 = .ok (.istore 6, 2) := by decide +kernel
theorem dX11_wouldFit_51 : decode cX11_wouldFit 51 = .ok (.iload 6, 2) := by decide +kernel
theorem dX11_wouldFit_53 : decode cX11_wouldFit 53 = .ok (.iload_n 3, 1) := by decide +kernel
theorem dX11_wouldFit_54 : decode cX11_wouldFit 54 = .ok (.if_icmp .ge 56, 3) := by decide +kernel
theorem dX11_wouldFit_57 : decode cX11_wouldFit 57 = .ok (.aload_n 0, 1) := by decide +kernel
theorem dX11_wouldFit_58 : decode cX11_wouldFit 58 = .ok (.getfield 12, 3) := by decide +kernel
theorem dX11_wouldFit_61 : decode cX11_wouldFit 61 = .ok (.iload 6, 2) := by decide +kernel
theorem dX11_wouldFit_63 : decode cX11_wouldFit 63 = .ok (.invokevirtual 327, 3) := by decide +kernel
theorem dX11_wouldFit_66 : decode cX11_wouldFit 66 = .ok (.istore 7, 2) := by decide +kernel
theorem dX11_wouldFit_68 : decode cX11_wouldFit 68 = .ok (.iload 7, 2) := by decide +kernel
theorem dX11_wouldFit_70 : decode cX11_wouldFit 70 = .ok (.iload_n 1, 1) := by decide +kernel
theorem dX11_wouldFit_71 : decode cX11_wouldFit 71 = .ok (.invokestatic 135, 3) := by decide +kernel
theorem dX11_wouldFit_74 : decode cX11_wouldFit 74 = .ok (.iconst 1, 1) := by decide +kernel
theorem dX11_wouldFit_75 : decode cX11_wouldFit 75 = .ok (.if_icmp .ne 29, 3) := by decide +kernel
theorem dX11_wouldFit_78 : decode cX11_wouldFit 78 = .ok (.aload_n 0, 1) := by decide +kernel
theorem dX11_wouldFit_79 : decode cX11_wouldFit 79 = .ok (.getfield 42, 3) := by decide +kernel
theorem dX11_wouldFit_82 : decode cX11_wouldFit 82 = .ok (.aload_n 0, 1) := by decide +kernel
theorem dX11_wouldFit_83 : decode cX11_wouldFit 83 = .ok (.getfield 42, 3) := by decide +kernel
theorem dX11_wouldFit_86 : decode cX11_wouldFit 86 = .ok (.iload 7, 2) := by decide +kernel
theorem dX11_wouldFit_88 : decode cX11_wouldFit 88 = .ok (.iload 4, 2) := by decide +kernel
theorem dX11_wouldFit_90 : decode cX11_wouldFit 90 = .ok (.invokevirtual 213, 3) := by decide +kernel
theorem dX11_wouldFit_93 : decode cX11_wouldFit 93 = .ok (.iload 5, 2) := by decide +kernel
theorem dX11_wouldFit_95 : decode cX11_wouldFit 95 = .ok (.iadd, 1) := by decide +kernel
theorem dX11_wouldFit_96 : decode cX11_wouldFit 96 = .ok (.invokevirtual 241, 3) := by decide +kernel
theorem dX11_wouldFit_99 : decode cX11_wouldFit 99 = .ok (.ifCond .ne 5, 3) := by decide +kernel
theorem dX11_wouldFit_102 : decode cX11_wouldFit 102 = .ok (.iconst 0, 1) := by decide +kernel
theorem dX11_wouldFit_103 : decode cX11_wouldFit 103 = .ok (.ireturn, 1) := by decide +kernel
theorem dX11_wouldFit_104 : decode cX11_wouldFit 104 = .ok (.iinc 6 2, 3) := by decide +kernel
theorem dX11_wouldFit_107 : decode cX11_wouldFit 107 = .ok (.goto (-56), 3) := by decide +kernel
theorem dX11_wouldFit_110 : decode cX11_wouldFit 110 = .ok (.iconst 1, 1) := by decide +kernel
theorem dX11_wouldFit_111 : decode cX11_wouldFit 111 = .ok (.ireturn, 1) := by decide +kernel
theorem dX11_waysToBalance_0 : decode cX11_waysToBalance 0 = .ok (.iconst 0, 1) := by decide +kernel
theorem dX11_waysToBalance_1 : decode cX11_waysToBalance 1 = .ok (.istore_n 3, 1) := by decide +kernel
theorem dX11_waysToBalance_2 : decode cX11_waysToBalance 2 = .ok (.iconst 1, 1) := by decide +kernel
theorem dX11_waysToBalance_3 : decode cX11_waysToBalance 3 = .ok (.istore 4, 2) := by decide +kernel
theorem dX11_waysToBalance_5 : decode cX11_waysToBalance 5 = .ok (.iconst 0, 1) := by decide +kernel
theorem dX11_waysToBalance_6 : decode cX11_waysToBalance 6 = .ok (.istore 5, 2) := by decide +kernel
theorem dX11_waysToBalance_8 : decode cX11_waysToBalance 8 = .ok (.iload 5, 2) := by decide +kernel
theorem dX11_waysToBalance_10 : decode cX11_waysToBalance 10 = .ok (.iconst 2, 1) := by decide +kernel
theorem dX11_waysToBalance_11 : decode cX11_waysToBalance 11 = .ok (.iload_n 1, 1) := by decide +kernel
theorem dX11_waysToBalance_12 : decode cX11_waysToBalance 12 = .ok (.imul, 1) := by decide +kernel
theorem dX11_waysToBalance_13 : decode cX11_waysToBalance 13 = .ok (.if_icmp .gt 46, 3) := by decide +kernel
theorem dX11_waysToBalance_16 : decode cX11_waysToBalance 16 = .ok (.aload_n 0, 1) := by decide +kernel
theorem dX11_waysToBalance_17 : decode cX11_waysToBalance 17 = .ok (.getfield 42, 3) := by decide +kernel
theorem dX11_waysToBalance_20 : decode cX11_waysToBalance 20 = .ok (.iload_n 2, 1) := by decide +kernel
theorem dX11_waysToBalance_21 : decode cX11_waysToBalance 21 = .ok (.iload 5, 2) := by decide +kernel
theorem dX11_waysToBalance_23 : decode cX11_waysToBalance 23 = .ok (.iadd, 1) := by decide +kernel
theorem dX11_waysToBalance_24 : decode cX11_waysToBalance 24 = .ok (.iload_n 1, 1) := by decide +kernel
theorem dX11_waysToBalance_25 : decode cX11_waysToBalance 25 = .ok (.isub, 1) := by decide +kernel
theorem dX11_waysToBalance_26 : decode cX11_waysToBalance 26 = .ok (.invokevirtual 241, 3) := by decide +kernel
theorem dX11_waysToBalance_29 : decode cX11_waysToBalance 29 = .ok (.ifCond .eq 8, 3) := by decide +kernel
theorem dX11_waysToBalance_32 : decode cX11_waysToBalance 32 = .ok (.iload_n 3, 1) := by decide +kernel
theorem dX11_waysToBalance_33 : decode cX11_waysToBalance 33 = .ok (.iload 4, 2) := by decide +kernel
theorem dX11_waysToBalance_35 : decode cX11_waysToBalance 35 = .ok (.iadd, 1) := by decide +kernel
theorem dX11_waysToBalance_36 : decode cX11_waysToBalance 36 = .ok (.istore_n 3, 1) := by decide +kernel
theorem dX11_waysToBalance_37 : decode cX11_waysToBalance 37 = .ok (.iload 4, 2) := by decide +kernel
theorem dX11_waysToBalance_39 : decode cX11_waysToBalance 39 = .ok (.iconst 2, 1) := by decide +kernel
theorem dX11_waysToBalance_40 : decode cX11_waysToBalance 40 = .ok (.iload_n 1, 1) := by decide +kernel
theorem dX11_waysToBalance_41 : decode cX11_waysToBalance 41 = .ok (.imul, 1) := by decide +kernel
theorem dX11_waysToBalance_42 : decode cX11_waysToBalance 42 = .ok (.iload 5, 2) := by decide +kernel
theorem dX11_waysToBalance_44 : decode cX11_waysToBalance 44 = .ok (.isub, 1) := by decide +kernel
theorem dX11_waysToBalance_45 : decode cX11_waysToBalance 45 = .ok (.imul, 1) := by decide +kernel
theorem dX11_waysToBalance_46 : decode cX11_waysToBalance 46 = .ok (.iload 5, 2) := by decide +kernel
theorem dX11_waysToBalance_48 : decode cX11_waysToBalance 48 = .ok (.iconst 1, 1) := by decide +kernel
theorem dX11_waysToBalance_49 : decode cX11_waysToBalance 49 = .ok (.iadd, 1) := by decide +kernel
theorem dX11_waysToBalance_50 : decode cX11_waysToBalance 50 = .ok (.idiv, 1) := by decide +kernel
theorem dX11_waysToBalance_51 : decode cX11_waysToBalance 51 = .ok (.istore 4, 2) := by decide +kernel
theorem dX11_waysToBalance_53 : decode cX11_waysToBalance 53 = .ok (.iinc 5 1, 3) := by decide +kernel
theorem dX11_waysToBalance_56 : decode cX11_waysToBalance 56 = .ok (.goto (-48), 3) := by decide +kernel
theorem dX11_waysToBalance_59 : decode cX11_waysToBalance 59 = .ok (.iload_n 3, 1) := by decide +kernel
theorem dX11_waysToBalance_60 : decode cX11_waysToBalance 60 = .ok (.ireturn, 1) := by decide +kernel
theorem dX11_liveLog_0 : decode cX11_liveLog 0 = .ok (.aload_n 0, 1) := by decide +kernel
theorem dX11_liveLog_1 : decode cX11_liveLog 1 = .ok (.getfield 42, 3) := by decide +kernel
theorem dX11_liveLog_4 : decode cX11_liveLog 4 = .ok (.getfield 129, 3) := by decide +kernel
theorem dX11_liveLog_7 : decode cX11_liveLog 7 = .ok (.getfield 181, 3) := by decide +kernel
theorem dX11_liveLog_10 : decode cX11_liveLog 10 = .ok (.istore_n 1, 1) := by decide +kernel
theorem dX11_liveLog_11 : decode cX11_liveLog 11 = .ok (.iconst 0, 1) := by decide +kernel
theorem dX11_liveLog_12 : decode cX11_liveLog 12 = .ok (.istore_n 2, 1) := by decide +kernel
theorem dX11_liveLog_13 : decode cX11_liveLog 13 = .ok (.iconst 0, 1) := by decide +kernel
theorem dX11_liveLog_14 : decode cX11_liveLog 14 = .ok (.istore_n 3, 1) := by decide +kernel
theorem dX11_liveLog_15 : decode cX11_liveLog 15 = .ok (.iload_n 3, 1) := by decide +kernel
theorem dX11_liveLog_16 : decode cX11_liveLog 16 = .ok (.aload_n 0, 1) := by decide +kernel
theorem dX11_liveLog_17 : decode cX11_liveLog 17 = .ok (.getfield 28, 3) := by decide +kernel
theorem dX11_liveLog_20 : decode cX11_liveLog 20 = .ok (.getfield 330, 3) := by decide +kernel
theorem dX11_liveLog_23 : decode cX11_liveLog 23 = .ok (.if_icmp .ge 106, 3) := by decide +kernel
theorem dX11_liveLog_26 : decode cX11_liveLog 26 = .ok (.iload_n 2, 1) := by decide +kernel
theorem dX11_liveLog_27 : decode cX11_liveLog 27 = .ok (.ifCond .ne 102, 3) := by decide +kernel
theorem dX11_liveLog_30 : decode cX11_liveLog 30 = .ok (.aload_n 0, 1) := by decide +kernel
theorem dX11_liveLog_31 : decode cX11_liveLog 31 = .ok (.getfield 28, 3) := by decide +kernel
theorem dX11_liveLog_34 : decode cX11_liveLog 34 = .ok (.getfield 331, 3) := by decide +kernel
theorem dX11_liveLog_37 : decode cX11_liveLog 37 = .ok (.iload_n 3, 1) := by decide +kernel
theorem dX11_liveLog_38 : decode cX11_liveLog 38 = .ok (.iaload, 1) := by decide +kernel
theorem dX11_liveLog_39 : decode cX11_liveLog 39 = .ok (.istore 4, 2) := by decide +kernel
theorem dX11_liveLog_41 : decode cX11_liveLog 41 = .ok (.aload_n 0, 1) := by decide +kernel
theorem dX11_liveLog_42 : decode cX11_liveLog 42 = .ok (.getfield 28, 3) := by decide +kernel
theorem dX11_liveLog_45 : decode cX11_liveLog 45 = .ok (.getfield 334, 3) := by decide +kernel
theorem dX11_liveLog_48 : decode cX11_liveLog 48 = .ok (.iload_n 3, 1) := by decide +kernel
theorem dX11_liveLog_49 : decode cX11_liveLog 49 = .ok (.iaload, 1) := by decide +kernel
theorem dX11_liveLog_50 : decode cX11_liveLog 50 = .ok (.istore 5, 2) := by decide +kernel
theorem dX11_liveLog_52 : decode cX11_liveLog 52 = .ok (.aload_n 0, 1) := by decide +kernel
theorem dX11_liveLog_53 : decode cX11_liveLog 53 = .ok (.getfield 28, 3) := by decide +kernel
theorem dX11_liveLog_56 : decode cX11_liveLog 56 = .ok (.getfield 337, 3) := by decide +kernel
theorem dX11_liveLog_59 : decode cX11_liveLog 59 = .ok (.iload_n 3, 1) := by decide +kernel
theorem dX11_liveLog_60 : decode cX11_liveLog 60 = .ok (.iaload, 1) := by decide +kernel
theorem dX11_liveLog_61 : decode cX11_liveLog 61 = .ok (.istore 6, 2) := by decide +kernel
theorem dX11_liveLog_63 : decode cX11_liveLog 63 = .ok (.aload_n 0, 1) := by decide +kernel
theorem dX11_liveLog_64 : decode cX11_liveLog 64 = .ok (.getfield 28, 3) := by decide +kernel
theorem dX11_liveLog_67 : decode cX11_liveLog 67 = .ok (.getfield 339, 3) := by decide +kernel
theorem dX11_liveLog_70 : decode cX11_liveLog 70 = .ok (.iload_n 3, 1) := by decide +kernel
theorem dX11_liveLog_71 : decode cX11_liveLog 71 = .ok (.iaload, 1) := by decide +kernel
theorem dX11_liveLog_72 : decode cX11_liveLog 72 = .ok (.istore 7, 2) := by decide +kernel
theorem dX11_liveLog_74 : decode cX11_liveLog 74 = .ok (.aload_n 0, 1) := by decide +kernel
theorem dX11_liveLog_75 : decode cX11_liveLog 75 = .ok (.getfield 42, 3) := by decide +kernel
theorem dX11_liveLog_78 : decode cX11_liveLog 78 = .ok (.iload 4, 2) := by decide +kernel
theorem dX11_liveLog_80 : decode cX11_liveLog 80 = .ok (.iload 5, 2) := by decide +kernel
theorem dX11_liveLog_82 : decode cX11_liveLog 82 = .ok (.iload 6, 2) := by decide +kernel
theorem dX11_liveLog_84 : decode cX11_liveLog 84 = .ok (.iload 7, 2) := by decide +kernel
theorem dX11_liveLog_86 : decode cX11_liveLog 86 = .ok (.invokevirtual 316, 3) := by decide +kernel
theorem dX11_liveLog_89 : decode cX11_liveLog 89 = .ok (.istore 8, 2) := by decide +kernel
theorem dX11_liveLog_91 : decode cX11_liveLog 91 = .ok (.iload 8, 2) := by decide +kernel
theorem dX11_liveLog_93 : decode cX11_liveLog 93 = .ok (.ifCond .ne 24, 3) := by decide +kernel
theorem dX11_liveLog_96 : decode cX11_liveLog 96 = .ok (.aload_n 0, 1) := by decide +kernel
theorem dX11_liveLog_97 : decode cX11_liveLog 97 = .ok (.getfield 42, 3) := by decide +kernel
theorem dX11_liveLog_100 : decode cX11_liveLog 100 = .ok (.iload 4, 2) := by decide +kernel
theorem dX11_liveLog_102 : decode cX11_liveLog 102 = .ok (.iload 5, 2) := by decide +kernel
theorem dX11_liveLog_104 : decode cX11_liveLog 104 = .ok (.iload 6, 2) := by decide +kernel
theorem dX11_liveLog_106 : decode cX11_liveLog 106 = .ok (.iload 7, 2) := by decide +kernel
theorem dX11_liveLog_108 : decode cX11_liveLog 108 = .ok (.invokevirtual 319, 3) := by decide +kernel
theorem dX11_liveLog_111 : decode cX11_liveLog 111 = .ok (.iinc 3 1, 3) := by decide +kernel
theorem dX11_liveLog_114 : decode cX11_liveLog 114 = .ok (.goto 12, 3) := by decide +kernel
theorem dX11_liveLog_117 : decode cX11_liveLog 117 = .ok (.bipush 10, 2) := by decide +kernel
theorem dX11_liveLog_119 : decode cX11_liveLog 119 = .ok (.iload 4, 2) := by decide +kernel
theorem dX11_liveLog_121 : decode cX11_liveLog 121 = .ok (.imul, 1) := by decide +kernel
theorem dX11_liveLog_122 : decode cX11_liveLog 122 = .ok (.iload 8, 2) := by decide +kernel
theorem dX11_liveLog_124 : decode cX11_liveLog 124 = .ok (.iadd, 1) := by decide +kernel
theorem dX11_liveLog_125 : decode cX11_liveLog 125 = .ok (.istore_n 2, 1) := by decide +kernel
theorem dX11_liveLog_126 : decode cX11_liveLog 126 = .ok (.goto (-111), 3) := by decide +kernel
theorem dX11_liveLog_129 : decode cX11_liveLog 129 = .ok (.aload_n 0, 1) := by decide +kernel
theorem dX11_liveLog_130 : decode cX11_liveLog 130 = .ok (.getfield 85, 3) := by decide +kernel
theorem dX11_liveLog_133 : decode cX11_liveLog 133 = .ok (.iconst 0, 1) := by decide +kernel
theorem dX11_liveLog_134 : decode cX11_liveLog 134 = .ok (.iload_n 2, 1) := by decide +kernel
theorem dX11_liveLog_135 : decode cX11_liveLog 135 = .ok (.iastore, 1) := by decide +kernel
theorem dX11_liveLog_136 : decode cX11_liveLog 136 = .ok (.aload_n 0, 1) := by decide +kernel
theorem dX11_liveLog_137 : decode cX11_liveLog 137 = .ok (.getfield 85, 3) := by decide +kernel
theorem dX11_liveLog_140 : decode cX11_liveLog 140 = .ok (.iconst 1, 1) := by decide +kernel
theorem dX11_liveLog_141 : decode cX11_liveLog 141 = .ok (.iload_n 3, 1) := by decide +kernel
theorem dX11_liveLog_142 : decode cX11_liveLog 142 = .ok (.iastore, 1) := by decide +kernel
theorem dX11_liveLog_143 : decode cX11_liveLog 143 = .ok (.aload_n 0, 1) := by decide +kernel
theorem dX11_liveLog_144 : decode cX11_liveLog 144 = .ok (.getfield 85, 3) := by decide +kernel
theorem dX11_liveLog_147 : decode cX11_liveLog 147 = .ok (.iconst 2, 1) := by decide +kernel
theorem dX11_liveLog_148 : decode cX11_liveLog 148 = .ok (.aload_n 0, 1) := by decide +kernel
theorem dX11_liveLog_149 : decode cX11_liveLog 149 = .ok (.getfield 42, 3) := by decide +kernel
theorem dX11_liveLog_152 : decode cX11_liveLog 152 = .ok (.getfield 129, 3) := by decide +kernel
theorem dX11_liveLog_155 : decode cX11_liveLog 155 = .ok (.getfield 181, 3) := by decide +kernel
theorem dX11_liveLog_158 : decode cX11_liveLog 158 = .ok (.iload_n 1, 1) := by decide +kernel
theorem dX11_liveLog_159 : decode cX11_liveLog 159 = .ok (.isub, 1) := by decide +kernel
theorem dX11_liveLog_160 : decode cX11_liveLog 160 = .ok (.iastore, 1) := by decide +kernel
theorem dX11_liveLog_161 : decode cX11_liveLog 161 = .ok (.aload_n 0, 1) := by decide +kernel
theorem dX11_liveLog_162 : decode cX11_liveLog 162 = .ok (.getfield 85, 3) := by decide +kernel
theorem dX11_liveLog_165 : decode cX11_liveLog 165 = .ok (.iconst 3, 1) := by decide +kernel
theorem dX11_liveLog_166 : decode cX11_liveLog 166 = .ok (.aload_n 0, 1) := by decide +kernel
theorem dX11_liveLog_167 : decode cX11_liveLog 167 = .ok (.getfield 42, 3) := by decide +kernel
theorem dX11_liveLog_170 : decode cX11_liveLog 170 = .ok (.getfield 129, 3) := by decide +kernel
theorem dX11_liveLog_173 : decode cX11_liveLog 173 = .ok (.getfield 132, 3) := by decide +kernel
theorem dX11_liveLog_176 : decode cX11_liveLog 176 = .ok (.iastore, 1) := by decide +kernel
theorem dX11_liveLog_177 : decode cX11_liveLog 177 = .ok (.iload_n 2, 1) := by decide +kernel
theorem dX11_liveLog_178 : decode cX11_liveLog 178 = .ok (.ifCond .ne 7, 3) := by decide +kernel
theorem dX11_liveLog_181 : decode cX11_liveLog 181 = .ok (.iconst (-1), 1) := by decide +kernel
theorem dX11_liveLog_182 : decode cX11_liveLog 182 = .ok (.goto 4, 3) := by decide +kernel
theorem dX11_liveLog_185 : decode cX11_liveLog 185 = .ok (.iload_n 3, 1) := by decide +kernel
theorem dX11_liveLog_186 : decode cX11_liveLog 186 = .ok (.ireturn, 1) := by decide +kernel
theorem dX12_throwsIf_0 : decode cX12_throwsIf 0 = .ok (.aload_n 0, 1) := by decide +kernel
theorem dX12_throwsIf_1 : decode cX12_throwsIf 1 = .ok (.iload_n 1, 1) := by decide +kernel
theorem dX12_throwsIf_2 : decode cX12_throwsIf 2 = .ok (.ifCond .eq 7, 3) := by decide +kernel
theorem dX12_throwsIf_5 : decode cX12_throwsIf 5 = .ok (.iconst 1, 1) := by decide +kernel
theorem dX12_throwsIf_6 : decode cX12_throwsIf 6 = .ok (.goto 4, 3) := by decide +kernel
theorem dX12_throwsIf_9 : decode cX12_throwsIf 9 = .ok (.iconst 0, 1) := by decide +kernel
theorem dX12_throwsIf_10 : decode cX12_throwsIf 10 = .ok (.putfield 1, 3) := by decide +kernel
theorem dX12_throwsIf_13 : decode cX12_throwsIf 13 = .ok (.iload_n 1, 1) := by decide +kernel
theorem dX12_throwsIf_14 : decode cX12_throwsIf 14 = .ok (.ireturn, 1) := by decide +kernel
theorem dX12_feed_0 : decode cX12_feed 0 = .ok (.aload_n 0, 1) := by decide +kernel
theorem dX12_feed_1 : decode cX12_feed 1 = .ok (.iconst 0, 1) := by decide +kernel
theorem dX12_feed_2 : decode cX12_feed 2 = .ok (.putfield 1, 3) := by decide +kernel
theorem dX12_feed_5 : decode cX12_feed 5 = .ok (.aload_n 0, 1) := by decide +kernel
theorem dX12_feed_6 : decode cX12_feed 6 = .ok (.getfield 7, 3) := by decide +kernel
theorem dX12_feed_9 : decode cX12_feed 9 = .ok (.bipush 20, 2) := by decide +kernel
theorem dX12_feed_11 : decode cX12_feed 11 = .ok (.iadd, 1) := by decide +kernel
theorem dX12_feed_12 : decode cX12_feed 12 = .ok (.sipush 940, 3) := by decide +kernel
theorem dX12_feed_15 : decode cX12_feed 15 = .ok (.if_icmp .le 5, 3) := by decide +kernel
theorem dX12_feed_18 : decode cX12_feed 18 = .ok (.iconst (-1), 1) := by decide +kernel
theorem dX12_feed_19 : decode cX12_feed 19 = .ok (.ireturn, 1) := by decide +kernel
theorem dX12_feed_20 : decode cX12_feed 20 = .ok (.aload_n 0, 1) := by decide +kernel
theorem dX12_feed_21 : decode cX12_feed 21 = .ok (.iload_n 1, 1) := by decide +kernel
theorem dX12_feed_22 : decode cX12_feed 22 = .ok (.invokevirtual 10, 3) := by decide +kernel
theorem dX12_feed_25 : decode cX12_feed 25 = .ok (.aload_n 0, 1) := by decide +kernel
theorem dX12_feed_26 : decode cX12_feed 26 = .ok (.iload_n 2, 1) := by decide +kernel
theorem dX12_feed_27 : decode cX12_feed 27 = .ok (.invokevirtual 10, 3) := by decide +kernel
theorem dX12_feed_30 : decode cX12_feed 30 = .ok (.aload_n 0, 1) := by decide +kernel
theorem dX12_feed_31 : decode cX12_feed 31 = .ok (.iload_n 3, 1) := by decide +kernel
theorem dX12_feed_32 : decode cX12_feed 32 = .ok (.invokevirtual 10, 3) := by decide +kernel
theorem dX12_feed_35 : decode cX12_feed 35 = .ok (.aload_n 0, 1) := by decide +kernel
theorem dX12_feed_36 : decode cX12_feed 36 = .ok (.iload 4, 2) := by decide +kernel
theorem dX12_feed_38 : decode cX12_feed 38 = .ok (.invokevirtual 10, 3) := by decide +kernel
theorem dX12_feed_41 : decode cX12_feed 41 = .ok (.aload_n 0, 1) := by decide +kernel
theorem dX12_feed_42 : decode cX12_feed 42 = .ok (.iload 5, 2) := by decide +kernel
theorem dX12_feed_44 : decode cX12_feed 44 = .ok (.invokevirtual 10, 3) := by decide +kernel
theorem dX12_feed_47 : decode cX12_feed 47 = .ok (.aload_n 0, 1) := by decide +kernel
theorem dX12_feed_48 : decode cX12_feed 48 = .ok (.getfield 7, 3) := by decide +kernel
theorem dX12_feed_51 : decode cX12_feed 51 = .ok (.ireturn, 1) := by decide +kernel
theorem dX12_four_0 : decode cX12_four 0 = .ok (.bipush 24, 2) := by decide +kernel
theorem dX12_four_2 : decode cX12_four 2 = .ok (.istore_n 2, 1) := by decide +kernel
theorem dX12_four_3 : decode cX12_four 3 = .ok (.iload_n 2, 1) := by decide +kernel
theorem dX12_four_4 : decode cX12_four 4 = .ok (.ifCond .lt 32, 3) := by decide +kernel
theorem dX12_four_7 : decode cX12_four 7 = .ok (.aload_n 0, 1) := by decide +kernel
theorem dX12_four_8 : decode cX12_four 8 = .ok (.getfield 14, 3) := by decide +kernel
theorem dX12_four_11 : decode cX12_four 11 = .ok (.aload_n 0, 1) := by decide +kernel
theorem dX12_four_12 : decode cX12_four 12 = .ok (.getfield 7, 3) := by decide +kernel
theorem dX12_four_15 : decode cX12_four 15 = .ok (.iload_n 1, 1) := by decide +kernel
theorem dX12_four_16 : decode cX12_four 16 = .ok (.iload_n 2, 1) := by decide +kernel
theorem dX12_four_17 : decode cX12_four 17 = .ok (.ishr, 1) := by decide +kernel
theorem dX12_four_18 : decode cX12_four 18 = .ok (.i2b, 1) := by decide +kernel
theorem dX12_four_19 : decode cX12_four 19 = .ok (.bastore, 1) := by decide +kernel
theorem dX12_four_20 : decode cX12_four 20 = .ok (.aload_n 0, 1) := by decide +kernel
theorem dX12_four_21 : decode cX12_four 21 = .ok (.dup, 1) := by decide +kernel
theorem dX12_four_22 : decode cX12_four 22 = .ok (.getfield 7, 3) := by decide +kernel
theorem dX12_four_25 : decode cX12_four 25 = .ok (.iconst 1, 1) := by decide +kernel
theorem dX12_four_26 : decode cX12_four 26 = .ok (.iadd, 1) := by decide +kernel
theorem dX12_four_27 : decode cX12_four 27 = .ok (.putfield 7, 3) := by decide +kernel
theorem dX12_four_30 : decode cX12_four 30 = .ok (.iinc 2 (-8), 3) := by decide +kernel
theorem dX12_four_33 : decode cX12_four 33 = .ok (.goto (-30), 3) := by decide +kernel
theorem dX12_four_36 : decode cX12_four 36 = .ok (.return_, 1) := by decide +kernel
theorem dX12_end_0 : decode cX12_end 0 = .ok (.aload_n 0, 1) := by decide +kernel
theorem dX12_end_1 : decode cX12_end 1 = .ok (.iconst 0, 1) := by decide +kernel
theorem dX12_end_2 : decode cX12_end 2 = .ok (.putfield 1, 3) := by decide +kernel
theorem dX12_end_5 : decode cX12_end 5 = .ok (.iload_n 1, 1) := by decide +kernel
theorem dX12_end_6 : decode cX12_end 6 = .ok (.ifCond .lt 11, 3) := by decide +kernel
theorem dX12_end_9 : decode cX12_end 9 = .ok (.iload_n 1, 1) := by decide +kernel
theorem dX12_end_10 : decode cX12_end 10 = .ok (.aload_n 0, 1) := by decide +kernel
theorem dX12_end_11 : decode cX12_end 11 = .ok (.getfield 7, 3) := by decide +kernel
theorem dX12_end_14 : decode cX12_end 14 = .ok (.if_icmp .le 5, 3) := by decide +kernel
theorem dX12_end_17 : decode cX12_end 17 = .ok (.iconst 0, 1) := by decide +kernel
theorem dX12_end_18 : decode cX12_end 18 = .ok (.ireturn, 1) := by decide +kernel
theorem dX12_end_19 : decode cX12_end 19 = .ok (.aload_n 0, 1) := by decide +kernel
theorem dX12_end_20 : decode cX12_end 20 = .ok (.iload_n 1, 1) := by decide +kernel
theorem dX12_end_21 : decode cX12_end 21 = .ok (.putfield 7, 3) := by decide +kernel
theorem dX12_end_24 : decode cX12_end 24 = .ok (.iconst 1, 1) := by decide +kernel
theorem dX12_end_25 : decode cX12_end 25 = .ok (.ireturn, 1) := by decide +kernel
theorem dX12_taken_0 : decode cX12_taken 0 = .ok (.aload_n 0, 1) := by decide +kernel
theorem dX12_taken_1 : decode cX12_taken 1 = .ok (.aload_n 0, 1) := by decide +kernel
theorem dX12_taken_2 : decode cX12_taken 2 = .ok (.getfield 7, 3) := by decide +kernel
theorem dX12_taken_5 : decode cX12_taken 5 = .ok (.putfield 18, 3) := by decide +kernel
theorem dX12_taken_8 : decode cX12_taken 8 = .ok (.aload_n 0, 1) := by decide +kernel
theorem dX12_taken_9 : decode cX12_taken 9 = .ok (.iconst 0, 1) := by decide +kernel
theorem dX12_taken_10 : decode cX12_taken 10 = .ok (.putfield 7, 3) := by decide +kernel
theorem dX12_taken_13 : decode cX12_taken 13 = .ok (.aload_n 0, 1) := by decide +kernel
theorem dX12_taken_14 : decode cX12_taken 14 = .ok (.iconst 0, 1) := by decide +kernel
theorem dX12_taken_15 : decode cX12_taken 15 = .ok (.putfield 21, 3) := by decide +kernel
theorem dX12_taken_18 : decode cX12_taken 18 = .ok (.aload_n 0, 1) := by decide +kernel
theorem dX12_taken_19 : decode cX12_taken 19 = .ok (.iload_n 1, 1) := by decide +kernel
theorem dX12_taken_20 : decode cX12_taken 20 = .ok (.putfield 24, 3) := by decide +kernel
theorem dX12_taken_23 : decode cX12_taken 23 = .ok (.return_, 1) := by decide +kernel
theorem dX12_isIn_0 : decode cX12_isIn 0 = .ok (.iload_n 0, 1) := by decide +kernel
theorem dX12_isIn_1 : decode cX12_isIn 1 = .ok (.iload_n 1, 1) := by decide +kernel
theorem dX12_isIn_2 : decode cX12_isIn 2 = .ok (.if_icmp .lt 12, 3) := by decide +kernel
theorem dX12_isIn_5 : decode cX12_isIn 5 = .ok (.iload_n 0, 1) := by decide +kernel
theorem dX12_isIn_6 : decode cX12_isIn 6 = .ok (.iload_n 2, 1) := by decide +kernel
theorem dX12_isIn_7 : decode cX12_isIn 7 = .ok (.if_icmp .gt 7, 3) := by decide +kernel
theorem dX12_isIn_10 : decode cX12_isIn 10 = .ok (.iconst 1, 1) := by decide +kernel
theorem dX12_isIn_11 : decode cX12_isIn 11 = .ok (.goto 4, 3) := by decide +kernel
theorem dX12_isIn_14 : decode cX12_isIn 14 = .ok (.iconst 0, 1) := by decide +kernel
theorem dX12_isIn_15 : decode cX12_isIn 15 = .ok (.ireturn, 1) := by decide +kernel
theorem dX12_bitOf_0 : decode cX12_bitOf 0 = .ok (.iload_n 0, 1) := by decide +kernel
theorem dX12_bitOf_1 : decode cX12_bitOf 1 = .ok (.iload_n 1, 1) := by decide +kernel
theorem dX12_bitOf_2 : decode cX12_bitOf 2 = .ok (.ishr, 1) := by decide +kernel
theorem dX12_bitOf_3 : decode cX12_bitOf 3 = .ok (.iconst 1, 1) := by decide +kernel
theorem dX12_bitOf_4 : decode cX12_bitOf 4 = .ok (.iand, 1) := by decide +kernel
theorem dX12_bitOf_5 : decode cX12_bitOf 5 = .ok (.iconst 1, 1) := by decide +kernel
theorem dX12_bitOf_6 : decode cX12_bitOf 6 = .ok (.if_icmp .ne 7, 3) := by decide +kernel
theorem dX12_bitOf_9 : decode cX12_bitOf 9 = .ok (.iconst 1, 1) := by decide +kernel
theorem dX12_bitOf_10 : decode cX12_bitOf 10 = .ok (.goto 4, 3) := by decide +kernel
theorem dX12_bitOf_13 : decode cX12_bitOf 13 = .ok (.iconst 0, 1) := by decide +kernel
theorem dX12_bitOf_14 : decode cX12_bitOf 14 = .ok (.ireturn, 1) := by decide +kernel
theorem dX12_sizeOf_0 : decode cX12_sizeOf 0 = .ok (.iload_n 0, 1) := by decide +kernel
theorem dX12_sizeOf_1 : decode cX12_sizeOf 1 = .ok (.ifCond .ge 8, 3) := by decide +kernel
theorem dX12_sizeOf_4 : decode cX12_sizeOf 4 = .ok (.iload_n 0, 1) := by decide +kernel
theorem dX12_sizeOf_5 : decode cX12_sizeOf 5 = .ok (.ineg, 1) := by decide +kernel
theorem dX12_sizeOf_6 : decode cX12_sizeOf 6 = .ok (.goto 4, 3) := by decide +kernel
theorem dX12_sizeOf_9 : decode cX12_sizeOf 9 = .ok (.iload_n 0, 1) := by decide +kernel
theorem dX12_sizeOf_10 : decode cX12_sizeOf 10 = .ok (.ireturn, 1) := by decide +kernel
theorem dX12_bits_0 : decode cX12_bits 0 = .ok (.iconst 0, 1) := by decide +kernel
theorem dX12_bits_1 : decode cX12_bits 1 = .ok (.istore_n 1, 1) := by decide +kernel
theorem dX12_bits_2 : decode cX12_bits 2 = .ok (.iload_n 0, 1) := by decide +kernel
theorem dX12_bits_3 : decode cX12_bits 3 = .ok (.istore_n 2, 1) := by decide +kernel
theorem dX12_bits_4 : decode cX12_bits 4 = .ok (.iload_n 2, 1) := by decide +kernel
theorem dX12_bits_5 : decode cX12_bits 5 = .ok (.ifCond .eq 15, 3) := by decide +kernel
theorem dX12_bits_8 : decode cX12_bits 8 = .ok (.iinc 1 1, 3) := by decide +kernel
theorem dX12_bits_11 : decode cX12_bits 11 = .ok (.iload_n 2, 1) := by decide +kernel
theorem dX12_bits_12 : decode cX12_bits 12 = .ok (.iload_n 2, 1) := by decide +kernel
theorem dX12_bits_13 : decode cX12_bits 13 = .ok (.iconst 1, 1) := by decide +kernel
theorem dX12_bits_14 : decode cX12_bits 14 = .ok (.isub, 1) := by decide +kernel
theorem dX12_bits_15 : decode cX12_bits 15 = .ok (.iand, 1) := by decide +kernel
theorem dX12_bits_16 : decode cX12_bits 16 = .ok (.istore_n 2, 1) := by decide +kernel
theorem dX12_bits_17 : decode cX12_bits 17 = .ok (.goto (-13), 3) := by decide +kernel
theorem dX12_bits_20 : decode cX12_bits 20 = .ok (.iload_n 1, 1) := by decide +kernel
theorem dX12_bits_21 : decode cX12_bits 21 = .ok (.ireturn, 1) := by decide +kernel
theorem dX12_part_0 : decode cX12_part 0 = .ok (.iload_n 0, 1) := by decide +kernel
theorem dX12_part_1 : decode cX12_part 1 = .ok (.istore_n 3, 1) := by decide +kernel
theorem dX12_part_2 : decode cX12_part 2 = .ok (.iload_n 1, 1) := by decide +kernel
theorem dX12_part_3 : decode cX12_part 3 = .ok (.istore 4, 2) := by decide +kernel
theorem dX12_part_5 : decode cX12_part 5 = .ok (.iload 4, 2) := by decide +kernel
theorem dX12_part_7 : decode cX12_part 7 = .ok (.ifCond .eq 19, 3) := by decide +kernel
theorem dX12_part_10 : decode cX12_part 10 = .ok (.iload_n 3, 1) := by decide +kernel
theorem dX12_part_11 : decode cX12_part 11 = .ok (.iload 4, 2) := by decide +kernel
theorem dX12_part_13 : decode cX12_part 13 = .ok (.irem, 1) := by decide +kernel
theorem dX12_part_14 : decode cX12_part 14 = .ok (.istore 5, 2) := by decide +kernel
theorem dX12_part_16 : decode cX12_part 16 = .ok (.iload 4, 2) := by decide +kernel
theorem dX12_part_18 : decode cX12_part 18 = .ok (.istore_n 3, 1) := by decide +kernel
theorem dX12_part_19 : decode cX12_part 19 = .ok (.iload 5, 2) := by decide +kernel
theorem dX12_part_21 : decode cX12_part 21 = .ok (.istore 4, 2) := by decide +kernel
theorem dX12_part_23 : decode cX12_part 23 = .ok (.goto (-18), 3) := by decide +kernel
theorem dX12_part_26 : decode cX12_part 26 = .ok (.iload_n 2, 1) := by decide +kernel
theorem dX12_part_27 : decode cX12_part 27 = .ok (.ifCond .ne 7, 3) := by decide +kernel
theorem dX12_part_30 : decode cX12_part 30 = .ok (.iload_n 0, 1) := by decide +kernel
theorem dX12_part_31 : decode cX12_part 31 = .ok (.goto 4, 3) := by decide +kernel
theorem dX12_part_34 : decode cX12_part 34 = .ok (.iload_n 1, 1) := by decide +kernel
theorem dX12_part_35 : decode cX12_part 35 = .ok (.iload_n 3, 1) := by decide +kernel
theorem dX12_part_36 : decode cX12_part 36 = .ok (.idiv, 1) := by decide +kernel
theorem dX12_part_37 : decode cX12_part 37 = .ok (.ireturn, 1) := by decide +kernel
theorem dX12_octet_0 : decode cX12_octet 0 = .ok (.aload_n 0, 1) := by decide +kernel
theorem dX12_octet_1 : decode cX12_octet 1 = .ok (.getfield 14, 3) := by decide +kernel
theorem dX12_octet_4 : decode cX12_octet 4 = .ok (.iload_n 1, 1) := by decide +kernel
theorem dX12_octet_5 : decode cX12_octet 5 = .ok (.baload, 1) := by decide +kernel
theorem dX12_octet_6 : decode cX12_octet 6 = .ok (.sipush 255, 3) := by decide +kernel
theorem dX12_octet_9 : decode cX12_octet 9 = .ok (.iand, 1) := by decide +kernel
theorem dX12_octet_10 : decode cX12_octet 10 = .ok (.ireturn, 1) := by decide +kernel
theorem dX12_init_0 : decode cX12_init 0 = .ok (.aload_n 0, 1) := by decide +kernel
theorem dX12_init_1 : decode cX12_init 1 = .ok (.invokespecial 27, 3) := by decide +kernel
theorem dX12_init_4 : decode cX12_init 4 = .ok (.aload_n 0, 1) := by decide +kernel
theorem dX12_init_5 : decode cX12_init 5 = .ok (.sipush 940, 3) := by decide +kernel
theorem dX12_init_8 : decode cX12_init 8 = .ok (.newarray .byte, 2) := by decide +kernel
theorem dX12_init_10 : decode cX12_init 10 = .ok (.putfield 14, 3) := by decide +kernel
theorem dX12_init_13 : decode cX12_init 13 = .ok (.aload_n 0, 1) := by decide +kernel
theorem dX12_init_14 : decode cX12_init 14 = .ok (.sipush 513, 3) := by decide +kernel
theorem dX12_init_17 : decode cX12_init 17 = .ok (.newarray .int, 2) := by decide +kernel
theorem dX12_init_19 : decode cX12_init 19 = .ok (.putfield 33, 3) := by decide +kernel
theorem dX12_init_22 : decode cX12_init 22 = .ok (.aload_n 0, 1) := by decide +kernel
theorem dX12_init_23 : decode cX12_init 23 = .ok (.bipush 125, 2) := by decide +kernel
theorem dX12_init_25 : decode cX12_init 25 = .ok (.newarray .int, 2) := by decide +kernel
theorem dX12_init_27 : decode cX12_init 27 = .ok (.putfield 37, 3) := by decide +kernel
theorem dX12_init_30 : decode cX12_init 30 = .ok (.aload_n 0, 1) := by decide +kernel
theorem dX12_init_31 : decode cX12_init 31 = .ok (.sipush 160, 3) := by decide +kernel
theorem dX12_init_34 : decode cX12_init 34 = .ok (.newarray .int, 2) := by decide +kernel
theorem dX12_init_36 : decode cX12_init 36 = .ok (.putfield 40, 3) := by decide +kernel
theorem dX12_init_39 : decode cX12_init 39 = .ok (.aload_n 0, 1) := by decide +kernel
theorem dX12_init_40 : decode cX12_init 40 = .ok (.bipush 38, 2) := by decide +kernel
theorem dX12_init_42 : decode cX12_init 42 = .ok (.newarray .long, 2) := by decide +kernel
theorem dX12_init_44 : decode cX12_init 44 = .ok (.putfield 43, 3) := by decide +kernel
theorem dX12_init_47 : decode cX12_init 47 = .ok (.aload_n 0, 1) := by decide +kernel
theorem dX12_init_48 : decode cX12_init 48 = .ok (.bipush 24, 2) := by decide +kernel
theorem dX12_init_50 : decode cX12_init 50 = .ok (.newarray .long, 2) := by decide +kernel
theorem dX12_init_52 : decode cX12_init 52 = .ok (.putfield 47, 3) := by decide +kernel
theorem dX12_init_55 : decode cX12_init 55 = .ok (.aload_n 0, 1) := by decide +kernel
theorem dX12_init_56 : decode cX12_init 56 = .ok (.sipush 1656, 3) := by decide +kernel
theorem dX12_init_59 : decode cX12_init 59 = .ok (.newarray .int, 2) := by decide +kernel
theorem dX12_init_61 : decode cX12_init 61 = .ok (.putfield 50, 3) := by decide +kernel
theorem dX12_init_64 : decode cX12_init 64 = .ok (.aload_n 0, 1) := by decide +kernel
theorem dX12_init_65 : decode cX12_init 65 = .ok (.sipush 207, 3) := by decide +kernel
theorem dX12_init_68 : decode cX12_init 68 = .ok (.newarray .int, 2) := by decide +kernel
theorem dX12_init_70 : decode cX12_init 70 = .ok (.putfield 53, 3) := by decide +kernel
theorem dX12_init_73 : decode cX12_init 73 = .ok (.aload_n 0, 1) := by decide +kernel
theorem dX12_init_74 : decode cX12_init 74 = .ok (.sipush 2048, 3) := by decide +kernel
theorem dX12_init_77 : decode cX12_init 77 = .ok (.newarray .int, 2) := by decide +kernel
theorem dX12_init_79 : decode cX12_init 79 = .ok (.putfield 56, 3) := by decide +kernel
theorem dX12_init_82 : decode cX12_init 82 = .ok (.aload_n 0, 1) := by decide +kernel
theorem dX12_init_83 : decode cX12_init 83 = .ok (.sipush 2048, 3) := by decide +kernel
theorem dX12_init_86 : decode cX12_init 86 = .ok (.newarray .int, 2) := by decide +kernel
theorem dX12_init_88 : decode cX12_init 88 = .ok (.putfield 59, 3) := by decide +kernel
theorem dX12_init_91 : decode cX12_init 91 = .ok (.aload_n 0, 1) := by decide +kernel
theorem dX12_init_92 : decode cX12_init 92 = .ok (.sipush 1024, 3) := by decide +kernel
theorem dX12_init_95 : decode cX12_init 95 = .ok (.newarray .boolean, 2) := by decide +kernel
theorem dX12_init_97 : decode cX12_init 97 = .ok (.putfield 62, 3) := by decide +kernel
theorem dX12_init_100 : decode cX12_init 100 = .ok (.aload_n 0, 1) := by decide +kernel
theorem dX12_init_101 : decode cX12_init 101 = .ok (.sipush 1024, 3) := by decide +kernel
theorem dX12_init_104 : decode cX12_init 104 = .ok (.newarray .int, 2) := by decide +kernel
theorem dX12_init_106 : decode cX12_init 106 = .ok (.putfield 66, 3) := by decide +kernel
theorem dX12_init_109 : decode cX12_init 109 = .ok (.aload_n 0, 1) := by decide +kernel
theorem dX12_init_110 : decode cX12_init 110 = .ok (.bipush 10, 2) := by decide +kernel
theorem dX12_init_112 : decode cX12_init 112 = .ok (.newarray .int, 2) := by decide +kernel
theorem dX12_init_114 : decode cX12_init 114 = .ok (.putfield 69, 3) := by decide +kernel
theorem dX12_init_117 : decode cX12_init 117 = .ok (.aload_n 0, 1) := by decide +kernel
theorem dX12_init_118 : decode cX12_init 118 = .ok (.iconst (-1), 1) := by decide +kernel
theorem dX12_init_119 : decode cX12_init 119 = .ok (.putfield 72, 3) := by decide +kernel
theorem dX12_init_122 : decode cX12_init 122 = .ok (.aload_n 0, 1) := by decide +kernel
theorem dX12_init_123 : decode cX12_init 123 = .ok (.sipush 221, 3) := by decide +kernel
theorem dX12_init_126 : decode cX12_init 126 = .ok (.newarray .int, 2) := by decide +kernel
theorem dX12_init_128 : decode cX12_init 128 = .ok (.putfield 75, 3) := by decide +kernel
theorem dX12_init_131 : decode cX12_init 131 = .ok (.aload_n 0, 1) := by decide +kernel
theorem dX12_init_132 : decode cX12_init 132 = .ok (.sipush 221, 3) := by decide +kernel
theorem dX12_init_135 : decode cX12_init 135 = .ok (.newarray .int, 2) := by decide +kernel
theorem dX12_init_137 : decode cX12_init 137 = .ok (.putfield 78, 3) := by decide +kernel
theorem dX12_init_140 : decode cX12_init 140 = .ok (.aload_n 0, 1) := by decide +kernel
theorem dX12_init_141 : decode cX12_init 141 = .ok (.iconst 4, 1) := by decide +kernel
theorem dX12_init_142 : decode cX12_init 142 = .ok (.newarray .int, 2) := by decide +kernel
theorem dX12_init_144 : decode cX12_init 144 = .ok (.putfield 81, 3) := by decide +kernel
theorem dX12_init_147 : decode cX12_init 147 = .ok (.aload_n 0, 1) := by decide +kernel
theorem dX12_init_148 : decode cX12_init 148 = .ok (.bipush 45, 2) := by decide +kernel
theorem dX12_init_150 : decode cX12_init 150 = .ok (.newarray .int, 2) := by decide +kernel
theorem dX12_init_152 : decode cX12_init 152 = .ok (.putfield 84, 3) := by decide +kernel
theorem dX12_init_155 : decode cX12_init 155 = .ok (.aload_n 0, 1) := by decide +kernel
theorem dX12_init_156 : decode cX12_init 156 = .ok (.bipush 45, 2) := by decide +kernel
theorem dX12_init_158 : decode cX12_init 158 = .ok (.newarray .boolean, 2) := by decide +kernel
theorem dX12_init_160 : decode cX12_init 160 = .ok (.putfield 87, 3) := by decide +kernel
theorem dX12_init_163 : decode cX12_init 163 = .ok (.aload_n 0, 1) := by decide +kernel
theorem dX12_init_164 : decode cX12_init 164 = .ok (.sipush 1026, 3) := by decide +kernel
theorem dX12_init_167 : decode cX12_init 167 = .ok (.newarray .int, 2) := by decide +kernel
theorem dX12_init_169 : decode cX12_init 169 = .ok (.putfield 90, 3) := by decide +kernel
theorem dX12_init_172 : decode cX12_init 172 = .ok (.aload_n 0, 1) := by decide +kernel
theorem dX12_init_173 : decode cX12_init 173 = .ok (.bipush 38, 2) := by decide +kernel
theorem dX12_init_175 : decode cX12_init 175 = .ok (.newarray .long, 2) := by decide +kernel
theorem dX12_init_177 : decode cX12_init 177 = .ok (.putfield 93, 3) := by decide +kernel
theorem dX12_init_180 : decode cX12_init 180 = .ok (.aload_n 0, 1) := by decide +kernel
theorem dX12_init_181 : decode cX12_init 181 = .ok (.iconst 2, 1) := by decide +kernel
theorem dX12_init_182 : decode cX12_init 182 = .ok (.newarray .boolean, 2) := by decide +kernel
theorem dX12_init_184 : decode cX12_init 184 = .ok (.putfield 96, 3) := by decide +kernel
theorem dX12_init_187 : decode cX12_init 187 = .ok (.aload_n 0, 1) := by decide +kernel
theorem dX12_init_188 : decode cX12_init 188 = .ok (.getfield 47, 3) := by decide +kernel
theorem dX12_init_191 : decode cX12_init 191 = .ok (.iconst 0, 1) := by decide +kernel
theorem dX12_init_192 : decode cX12_init 192 = .ok (.ldc2_w 99, 3) := by decide +kernel
theorem dX12_init_195 : decode cX12_init 195 = .ok (.lastore, 1) := by decide +kernel
theorem dX12_init_196 : decode cX12_init 196 = .ok (.aload_n 0, 1) := by decide +kernel
theorem dX12_init_197 : decode cX12_init 197 = .ok (.getfield 47, 3) := by decide +kernel
theorem dX12_init_200 : decode cX12_init 200 = .ok (.iconst 1, 1) := by decide +kernel
theorem dX12_init_201 : decode cX12_init 201 = .ok (.ldc2_w 101, 3) := by decide +kernel
theorem dX12_init_204 : decode cX12_init 204 = .ok (.lastore, 1) := by decide +kernel
theorem dX12_init_205 : decode cX12_init 205 = .ok (.aload_n 0, 1) := by decide +kernel
theorem dX12_init_206 : decode cX12_init 206 = .ok (.getfield 47, 3) := by decide +kernel
theorem dX12_init_209 : decode cX12_init 209 = .ok (.iconst 2, 1) := by decide +kernel
theorem dX12_init_210 : decode cX12_init 210 = .ok (.ldc2_w 103, 3) := by decide +kernel
theorem dX12_init_213 : decode cX12_init 213 = .ok (.lastore, 1) := by decide +kernel
theorem dX12_init_214 : decode cX12_init 214 = .ok (.aload_n 0, 1) := by decide +kernel
theorem dX12_init_215 : decode cX12_init 215 = .ok (.getfield 47, 3) := by decide +kernel
theorem dX12_init_218 : decode cX12_init 218 = .ok (.iconst 3, 1) := by decide +kernel
theorem dX12_init_219 : decode cX12_init 219 = .ok (.ldc2_w 105, 3) := by decide +kernel
theorem dX12_init_222 : decode cX12_init 222 = .ok (.lastore, 1) := by decide +kernel
theorem dX12_init_223 : decode cX12_init 223 = .ok (.aload_n 0, 1) := by decide +kernel
theorem dX12_init_224 : decode cX12_init 224 = .ok (.getfield 47, 3) := by decide +kernel
theorem dX12_init_227 : decode cX12_init 227 = .ok (.iconst 4, 1) := by decide +kernel
theorem dX12_init_228 : decode cX12_init 228 = .ok (.ldc2_w 107, 3) := by decide +kernel
theorem dX12_init_231 : decode cX12_init 231 = .ok (.lastore, 1) := by decide +kernel
theorem dX12_init_232 : decode cX12_init 232 = .ok (.aload_n 0, 1) := by decide +kernel
theorem dX12_init_233 : decode cX12_init 233 = .ok (.getfield 47, 3) := by decide +kernel
theorem dX12_init_236 : decode cX12_init 236 = .ok (.iconst 5, 1) := by decide +kernel
theorem dX12_init_237 : decode cX12_init 237 = .ok (.ldc2_w 109, 3) := by decide +kernel
theorem dX12_init_240 : decode cX12_init 240 = .ok (.lastore, 1) := by decide +kernel
theorem dX12_init_241 : decode cX12_init 241 = .ok (.aload_n 0, 1) := by decide +kernel
theorem dX12_init_242 : decode cX12_init 242 = .ok (.getfield 47, 3) := by decide +kernel
theorem dX12_init_245 : decode cX12_init 245 = .ok (.bipush 6, 2) := by decide +kernel
theorem dX12_init_247 : decode cX12_init 247 = .ok (.ldc2_w 111, 3) := by decide +kernel
theorem dX12_init_250 : decode cX12_init 250 = .ok (.lastore, 1) := by decide +kernel
theorem dX12_init_251 : decode cX12_init 251 = .ok (.aload_n 0, 1) := by decide +kernel
theorem dX12_init_252 : decode cX12_init 252 = .ok (.getfield 47, 3) := by decide +kernel
theorem dX12_init_255 : decode cX12_init 255 = .ok (.bipush 7, 2) := by decide +kernel
theorem dX12_init_257 : decode cX12_init 257 = .ok (.ldc2_w 113, 3) := by decide +kernel
theorem dX12_init_260 : decode cX12_init 260 = .ok (.lastore, 1) := by decide +kernel
theorem dX12_init_261 : decode cX12_init 261 = .ok (.aload_n 0, 1) := by decide +kernel
theorem dX12_init_262 : decode cX12_init 262 = .ok (.getfield 47, 3) := by decide +kernel
theorem dX12_init_265 : decode cX12_init 265 = .ok (.bipush 8, 2) := by decide +kernel
theorem dX12_init_267 : decode cX12_init 267 = .ok (.ldc2_w 115, 3) := by decide +kernel
theorem dX12_init_270 : decode cX12_init 270 = .ok (.lastore, 1) := by decide +kernel
theorem dX12_init_271 : decode cX12_init 271 = .ok (.aload_n 0, 1) := by decide +kernel
theorem dX12_init_272 : decode cX12_init 272 = .ok (.getfield 47, 3) := by decide +kernel
theorem dX12_init_275 : decode cX12_init 275 = .ok (.bipush 9, 2) := by decide +kernel
theorem dX12_init_277 : decode cX12_init 277 = .ok (.ldc2_w 117, 3) := by decide +kernel
theorem dX12_init_280 : decode cX12_init 280 = .ok (.lastore, 1) := by decide +kernel
theorem dX12_init_281 : decode cX12_init 281 = .ok (.aload_n 0, 1) := by decide +kernel
theorem dX12_init_282 : decode cX12_init 282 = .ok (.getfield 47, 3) := by decide +kernel
theorem dX12_init_285 : decode cX12_init 285 = .ok (.bipush 10, 2) := by decide +kernel
theorem dX12_init_287 : decode cX12_init 287 = .ok (.ldc2_w 119, 3) := by decide +kernel
theorem dX12_init_290 : decode cX12_init 290 = .ok (.lastore, 1) := by decide +kernel
theorem dX12_init_291 : decode cX12_init 291 = .ok (.aload_n 0, 1) := by decide +kernel
theorem dX12_init_292 : decode cX12_init 292 = .ok (.getfield 47, 3) := by decide +kernel
theorem dX12_init_295 : decode cX12_init 295 = .ok (.bipush 11, 2) := by decide +kernel
theorem dX12_init_297 : decode cX12_init 297 = .ok (.ldc2_w 121, 3) := by decide +kernel
theorem dX12_init_300 : decode cX12_init 300 = .ok (.lastore, 1) := by decide +kernel
theorem dX12_init_301 : decode cX12_init 301 = .ok (.aload_n 0, 1) := by decide +kernel
theorem dX12_init_302 : decode cX12_init 302 = .ok (.getfield 47, 3) := by decide +kernel
theorem dX12_init_305 : decode cX12_init 305 = .ok (.bipush 12, 2) := by decide +kernel
theorem dX12_init_307 : decode cX12_init 307 = .ok (.ldc2_w 123, 3) := by decide +kernel
theorem dX12_init_310 : decode cX12_init 310 = .ok (.lastore, 1) := by decide +kernel
theorem dX12_init_311 : decode cX12_init 311 = .ok (.aload_n 0, 1) := by decide +kernel
theorem dX12_init_312 : decode cX12_init 312 = .ok (.getfield 47, 3) := by decide +kernel
theorem dX12_init_315 : decode cX12_init 315 = .ok (.bipush 13, 2) := by decide +kernel
theorem dX12_init_317 : decode cX12_init 317 = .ok (.ldc2_w 125, 3) := by decide +kernel
theorem dX12_init_320 : decode cX12_init 320 = .ok (.lastore, 1) := by decide +kernel
theorem dX12_init_321 : decode cX12_init 321 = .ok (.aload_n 0, 1) := by decide +kernel
theorem dX12_init_322 : decode cX12_init 322 = .ok (.getfield 47, 3) := by decide +kernel
theorem dX12_init_325 : decode cX12_init 325 = .ok (.bipush 14, 2) := by decide +kernel
theorem dX12_init_327 : decode cX12_init 327 = .ok (.ldc2_w 127, 3) := by decide +kernel
theorem dX12_init_330 : decode cX12_init 330 = .ok (.lastore, 1) := by decide +kernel
theorem dX12_init_331 : decode cX12_init 331 = .ok (.aload_n 0, 1) := by decide +kernel
theorem dX12_init_332 : decode cX12_init 332 = .ok (.getfield 47, 3) := by decide +kernel
theorem dX12_init_335 : decode cX12_init 335 = .ok (.bipush 15, 2) := by decide +kernel
theorem dX12_init_337 : decode cX12_init 337 = .ok (.ldc2_w 129, 3) := by decide +kernel
theorem dX12_init_340 : decode cX12_init 340 = .ok (.lastore, 1) := by decide +kernel
theorem dX12_init_341 : decode cX12_init 341 = .ok (.aload_n 0, 1) := by decide +kernel
theorem dX12_init_342 : decode cX12_init 342 = .ok (.getfield 47, 3) := by decide +kernel
theorem dX12_init_345 : decode cX12_init 345 = .ok (.bipush 16, 2) := by decide +kernel
theorem dX12_init_347 : decode cX12_init 347 = .ok (.ldc2_w 131, 3) := by decide +kernel
theorem dX12_init_350 : decode cX12_init 350 = .ok (.lastore, 1) := by decide +kernel
theorem dX12_init_351 : decode cX12_init 351 = .ok (.aload_n 0, 1) := by decide +kernel
theorem dX12_init_352 : decode cX12_init 352 = .ok (.getfield 47, 3) := by decide +kernel
theorem dX12_init_355 : decode cX12_init 355 = .ok (.bipush 17, 2) := by decide +kernel
theorem dX12_init_357 : decode cX12_init 357 = .ok (.ldc2_w 133, 3) := by decide +kernel
theorem dX12_init_360 : decode cX12_init 360 = .ok (.lastore, 1) := by decide +kernel
theorem dX12_init_361 : decode cX12_init 361 = .ok (.aload_n 0, 1) := by decide +kernel
theorem dX12_init_362 : decode cX12_init 362 = .ok (.getfield 47, 3) := by decide +kernel
theorem dX12_init_365 : decode cX12_init 365 = .ok (.bipush 18, 2) := by decide +kernel
theorem dX12_init_367 : decode cX12_init 367 = .ok (.ldc2_w 135, 3) := by decide +kernel
theorem dX12_init_370 : decode cX12_init 370 = .ok (.lastore, 1) := by decide +kernel
theorem dX12_init_371 : decode cX12_init 371 = .ok (.aload_n 0, 1) := by decide +kernel
theorem dX12_init_372 : decode cX12_init 372 = .ok (.getfield 47, 3) := by decide +kernel
theorem dX12_init_375 : decode cX12_init 375 = .ok (.bipush 19, 2) := by decide +kernel
theorem dX12_init_377 : decode cX12_init 377 = .ok (.ldc2_w 137, 3) := by decide +kernel
theorem dX12_init_380 : decode cX12_init 380 = .ok (.lastore, 1) := by decide +kernel
theorem dX12_init_381 : decode cX12_init 381 = .ok (.aload_n 0, 1) := by decide +kernel
theorem dX12_init_382 : decode cX12_init 382 = .ok (.getfield 47, 3) := by decide +kernel
theorem dX12_init_385 : decode cX12_init 385 = .ok (.bipush 20, 2) := by decide +kernel
theorem dX12_init_387 : decode cX12_init 387 = .ok (.ldc2_w 139, 3) := by decide +kernel
theorem dX12_init_390 : decode cX12_init 390 = .ok (.lastore, 1) := by decide +kernel
theorem dX12_init_391 : decode cX12_init 391 = .ok (.aload_n 0, 1) := by decide +kernel
theorem dX12_init_392 : decode cX12_init 392 = .ok (.getfield 47, 3) := by decide +kernel
theorem dX12_init_395 : decode cX12_init 395 = .ok (.bipush 21, 2) := by decide +kernel
theorem dX12_init_397 : decode cX12_init 397 = .ok (.ldc2_w 141, 3) := by decide +kernel
theorem dX12_init_400 : decode cX12_init 400 = .ok (.lastore, 1) := by decide +kernel
theorem dX12_init_401 : decode cX12_init 401 = .ok (.aload_n 0, 1) := by decide +kernel
theorem dX12_init_402 : decode cX12_init 402 = .ok (.getfield 47, 3) := by decide +kernel
theorem dX12_init_405 : decode cX12_init 405 = .ok (.bipush 22, 2) := by decide +kernel
theorem dX12_init_407 : decode cX12_init 407 = .ok (.ldc2_w 143, 3) := by decide +kernel
theorem dX12_init_410 : decode cX12_init 410 = .ok (.lastore, 1) := by decide +kernel
theorem dX12_init_411 : decode cX12_init 411 = .ok (.aload_n 0, 1) := by decide +kernel
theorem dX12_init_412 : decode cX12_init 412 = .ok (.getfield 47, 3) := by decide +kernel
theorem dX12_init_415 : decode cX12_init 415 = .ok (.bipush 23, 2) := by decide +kernel
theorem dX12_init_417 : decode cX12_init 417 = .ok (.ldc2_w 145, 3) := by decide +kernel
theorem dX12_init_420 : decode cX12_init 420 = .ok (.lastore, 1) := by decide +kernel
theorem dX12_init_421 : decode cX12_init 421 = .ok (.aload_n 0, 1) := by decide +kernel
theorem dX12_init_422 : decode cX12_init 422 = .ok (.getfield 33, 3) := by decide +kernel
theorem dX12_init_425 : decode cX12_init 425 = .ok (.iconst 2, 1) := by decide +kernel
theorem dX12_init_426 : decode cX12_init 426 = .ok (.iconst 4, 1) := by decide +kernel
theorem dX12_init_427 : decode cX12_init 427 = .ok (.iastore, 1) := by decide +kernel
theorem dX12_init_428 : decode cX12_init 428 = .ok (.return_, 1) := by decide +kernel
theorem dX12_peek_0 : decode cX12_peek 0 = .ok (.aload_n 0, 1) := by decide +kernel
theorem dX12_peek_1 : decode cX12_peek 1 = .ok (.getfield 21, 3) := by decide +kernel
theorem dX12_peek_4 : decode cX12_peek 4 = .ok (.aload_n 0, 1) := by decide +kernel
theorem dX12_peek_5 : decode cX12_peek 5 = .ok (.getfield 18, 3) := by decide +kernel
theorem dX12_peek_8 : decode cX12_peek 8 = .ok (.if_icmp .ge 19, 3) := by decide +kernel
theorem dX12_peek_11 : decode cX12_peek 11 = .ok (.aload_n 0, 1) := by decide +kernel
theorem dX12_peek_12 : decode cX12_peek 12 = .ok (.getfield 14, 3) := by decide +kernel
theorem dX12_peek_15 : decode cX12_peek 15 = .ok (.aload_n 0, 1) := by decide +kernel
theorem dX12_peek_16 : decode cX12_peek 16 = .ok (.getfield 21, 3) := by decide +kernel
theorem dX12_peek_19 : decode cX12_peek 19 = .ok (.baload, 1) := by decide +kernel
theorem dX12_peek_20 : decode cX12_peek 20 = .ok (.sipush 255, 3) := by decide +kernel
theorem dX12_peek_23 : decode cX12_peek 23 = .ok (.iand, 1) := by decide +kernel
theorem dX12_peek_24 : decode cX12_peek 24 = .ok (.goto 4, 3) := by decide +kernel
theorem dX12_peek_27 : decode cX12_peek 27 = .ok (.iconst (-1), 1) := by decide +kernel
theorem dX12_peek_28 : decode cX12_peek 28 = .ok (.ireturn, 1) := by decide +kernel
theorem dX12_isSmall_0 : decode cX12_isSmall 0 = .ok (.iload_n 0, 1) := by decide +kernel
theorem dX12_isSmall_1 : decode cX12_isSmall 1 = .ok (.bipush 97, 2) := by decide +kernel
theorem dX12_isSmall_3 : decode cX12_isSmall 3 = .ok (.if_icmp .lt 13, 3) := by decide +kernel
theorem dX12_isSmall_6 : decode cX12_isSmall 6 = .ok (.iload_n 0, 1) := by decide +kernel
theorem dX12_isSmall_7 : decode cX12_isSmall 7 = .ok (.bipush 122, 2) := by decide +kernel
theorem dX12_isSmall_9 : decode cX12_isSmall 9 = .ok (.if_icmp .gt 7, 3) := by decide +kernel
theorem dX12_isSmall_12 : decode cX12_isSmall 12 = .ok (.iconst 1, 1) := by decide +kernel
theorem dX12_isSmall_13 : decode cX12_isSmall 13 = .ok (.goto 4, 3) := by decide +kernel
theorem dX12_isSmall_16 : decode cX12_isSmall 16 = .ok (.iconst 0, 1) := by decide +kernel
theorem dX12_isSmall_17 : decode cX12_isSmall 17 = .ok (.ireturn, 1) := by decide +kernel
theorem dX12_isDigit_0 : decode cX12_isDigit 0 = .ok (.iload_n 0, 1) := by decide +kernel
theorem dX12_isDigit_1 : decode cX12_isDigit 1 = .ok (.bipush 48, 2) := by decide +kernel
theorem dX12_isDigit_3 : decode cX12_isDigit 3 = .ok (.if_icmp .lt 13, 3) := by decide +kernel
theorem dX12_isDigit_6 : decode cX12_isDigit 6 = .ok (.iload_n 0, 1) := by decide +kernel
theorem dX12_isDigit_7 : decode cX12_isDigit 7 = .ok (.bipush 57, 2) := by decide +kernel
theorem dX12_isDigit_9 : decode cX12_isDigit 9 = .ok (.if_icmp .gt 7, 3) := by decide +kernel
theorem dX12_isDigit_12 : decode cX12_isDigit 12 = .ok (.iconst 1, 1) := by decide +kernel
theorem dX12_isDigit_13 : decode cX12_isDigit 13 = .ok (.goto 4, 3) := by decide +kernel
theorem dX12_isDigit_16 : decode cX12_isDigit 16 = .ok (.iconst 0, 1) := by decide +kernel
theorem dX12_isDigit_17 : decode cX12_isDigit 17 = .ok (.ireturn, 1) := by decide +kernel
theorem dX12_skip_0 : decode cX12_skip 0 = .ok (.aload_n 0, 1) := by decide +kernel
theorem dX12_skip_1 : decode cX12_skip 1 = .ok (.invokevirtual 147, 3) := by decide +kernel
theorem dX12_skip_4 : decode cX12_skip 4 = .ok (.bipush 32, 2) := by decide +kernel
theorem dX12_skip_6 : decode cX12_skip 6 = .ok (.if_icmp .eq 12, 3) := by decide +kernel
theorem dX12_skip_9 : decode cX12_skip 9 = .ok (.aload_n 0, 1) := by decide +kernel
theorem dX12_skip_10 : decode cX12_skip 10 = .ok (.invokevirtual 147, 3) := by decide +kernel
theorem dX12_skip_13 : decode cX12_skip 13 = .ok (.bipush 10, 2) := by decide +kernel
theorem dX12_skip_15 : decode cX12_skip 15 = .ok (.if_icmp .ne 16, 3) := by decide +kernel
theorem dX12_skip_18 : decode cX12_skip 18 = .ok (.aload_n 0, 1) := by decide +kernel
theorem dX12_skip_19 : decode cX12_skip 19 = .ok (.dup, 1) := by decide +kernel
theorem dX12_skip_20 : decode cX12_skip 20 = .ok (.getfield 21, 3) := by decide +kernel
theorem dX12_skip_23 : decode cX12_skip 23 = .ok (.iconst 1, 1) := by decide +kernel
theorem dX12_skip_24 : decode cX12_skip 24 = .ok (.iadd, 1) := by decide +kernel
theorem dX12_skip_25 : decode cX12_skip 25 = .ok (.putfield 21, 3) := by decide +kernel
theorem dX12_skip_28 : decode cX12_skip 28 = .ok (.goto (-28), 3) := by decide +kernel
theorem dX12_skip_31 : decode cX12_skip 31 = .ok (.aload_n 0, 1) := by decide +kernel
theorem dX12_skip_32 : decode cX12_skip 32 = .ok (.aload_n 0, 1) := by decide +kernel
theorem dX12_skip_33 : decode cX12_skip 33 = .ok (.getfield 21, 3) := by decide +kernel
theorem dX12_skip_36 : decode cX12_skip 36 = .ok (.putfield 151, 3) := by decide +kernel
theorem dX12_skip_39 : decode cX12_skip 39 = .ok (.aload_n 0, 1) := by decide +kernel
theorem dX12_skip_40 : decode cX12_skip 40 = .ok (.iconst 0, 1) := by decide +kernel
theorem dX12_skip_41 : decode cX12_skip 41 = .ok (.putfield 154, 3) := by decide +kernel
theorem dX12_skip_44 : decode cX12_skip 44 = .ok (.aload_n 0, 1) := by decide +kernel
theorem dX12_skip_45 : decode cX12_skip 45 = .ok (.getfield 18, 3) := by decide +kernel
theorem dX12_skip_48 : decode cX12_skip 48 = .ok (.aload_n 0, 1) := by decide +kernel
theorem dX12_skip_49 : decode cX12_skip 49 = .ok (.getfield 24, 3) := by decide +kernel
theorem dX12_skip_52 : decode cX12_skip 52 = .ok (.if_icmp .le 28, 3) := by decide +kernel
theorem dX12_skip_55 : decode cX12_skip 55 = .ok (.aload_n 0, 1) := by decide +kernel
theorem dX12_skip_56 : decode cX12_skip 56 = .ok (.getfield 21, 3) := by decide +kernel
theorem dX12_skip_59 : decode cX12_skip 59 = .ok (.aload_n 0, 1) := by decide +kernel
theorem dX12_skip_60 : decode cX12_skip 60 = .ok (.getfield 24, 3) := by decide +kernel
theorem dX12_skip_63 : decode cX12_skip 63 = .ok (.if_icmp .lt 17, 3) := by decide +kernel
theorem dX12_skip_66 : decode cX12_skip 66 = .ok (.aload_n 0, 1) := by decide +kernel
theorem dX12_skip_67 : decode cX12_skip 67 = .ok (.aload_n 0, 1) := by decide +kernel
theorem dX12_skip_68 : decode cX12_skip 68 = .ok (.getfield 24, 3) := by decide +kernel
theorem dX12_skip_71 : decode cX12_skip 71 = .ok (.putfield 151, 3) := by decide +kernel
theorem dX12_skip_74 : decode cX12_skip 74 = .ok (.aload_n 0, 1) := by decide +kernel
theorem dX12_skip_75 : decode cX12_skip 75 = .ok (.iconst 4, 1) := by decide +kernel
theorem dX12_skip_76 : decode cX12_skip 76 = .ok (.putfield 157, 3) := by decide +kernel
theorem dX12_skip_79 : decode cX12_skip 79 = .ok (.return_, 1) := by decide +kernel
theorem dX12_skip_80 : decode cX12_skip 80 = .ok (.aload_n 0, 1) := by decide +kernel
theorem dX12_skip_81 : decode cX12_skip 81 = .ok (.invokevirtual 147, 3) := by decide +kernel
theorem dX12_skip_84 : decode cX12_skip 84 = .ok (.istore_n 1, 1) := by decide +kernel
theorem dX12_skip_85 : decode cX12_skip 85 = .ok (.iload_n 1, 1) := by decide +kernel
theorem dX12_skip_86 : decode cX12_skip 86 = .ok (.ifCond .ge 9, 3) := by decide +kernel
theorem dX12_skip_89 : decode cX12_skip 89 = .ok (.aload_n 0, 1) := by decide +kernel
theorem dX12_skip_90 : decode cX12_skip 90 = .ok (.iconst 0, 1) := by decide +kernel
theorem dX12_skip_91 : decode cX12_skip 91 = .ok (.putfield 157, 3) := by decide +kernel
theorem dX12_skip_94 : decode cX12_skip 94 = .ok (.return_, 1) := by decide +kernel
theorem dX12_skip_95 : decode cX12_skip 95 = .ok (.iload_n 1, 1) := by decide +kernel
theorem dX12_skip_96 : decode cX12_skip 96 = .ok (.invokestatic 160, 3) := by decide +kernel
theorem dX12_skip_99 : decode cX12_skip 99 = .ok (.ifCond .ne 65, 3) := by decide +kernel
theorem dX12_skip_102 : decode cX12_skip 102 = .ok (.iload_n 1, 1) := by decide +kernel
theorem dX12_skip_103 : decode cX12_skip 103 = .ok (.invokestatic 164, 3) := by decide +kernel
theorem dX12_skip_106 : decode cX12_skip 106 = .ok (.ifCond .ne 58, 3) := by decide +kernel
theorem dX12_skip_109 : decode cX12_skip 109 = .ok (.aload_n 0, 1) := by decide +kernel
theorem dX12_skip_110 : decode cX12_skip 110 = .ok (.iload_n 1, 1) := by decide +kernel
theorem dX12_skip_111 : decode cX12_skip 111 = .ok (.bipush 59, 2) := by decide +kernel
theorem dX12_skip_113 : decode cX12_skip 113 = .ok (.if_icmp .eq 27, 3) := by decide +kernel
theorem dX12_skip_116 : decode cX12_skip 116 = .ok (.iload_n 1, 1) := by decide +kernel
theorem dX12_skip_117 : decode cX12_skip 117 = .ok (.bipush 40, 2) := by decide +kernel
theorem dX12_skip_119 : decode cX12_skip 119 = .ok (.if_icmp .eq 21, 3) := by decide +kernel
theorem dX12_skip_122 : decode cX12_skip 122 = .ok (.iload_n 1, 1) := by decide +kernel
theorem dX12_skip_123 : decode cX12_skip 123 = .ok (.bipush 41, 2) := by decide +kernel
theorem dX12_skip_125 : decode cX12_skip 125 = .ok (.if_icmp .eq 15, 3) := by decide +kernel
theorem dX12_skip_128 : decode cX12_skip 128 = .ok (.iload_n 1, 1) := by decide +kernel
theorem dX12_skip_129 : decode cX12_skip 129 = .ok (.bipush 60, 2) := by decide +kernel
theorem dX12_skip_131 : decode cX12_skip 131 = .ok (.if_icmp .lt 13, 3) := by decide +kernel
theorem dX12_skip_134 : decode cX12_skip 134 = .ok (.iload_n 1, 1) := by decide +kernel
theorem dX12_skip_135 : decode cX12_skip 135 = .ok (.bipush 62, 2) := by decide +kernel
theorem dX12_skip_137 : decode cX12_skip 137 = .ok (.if_icmp .gt 7, 3) := by decide +kernel
theorem dX12_skip_140 : decode cX12_skip 140 = .ok (.iconst 3, 1) := by decide +kernel
theorem dX12_skip_141 : decode cX12_skip 141 = .ok (.goto 4, 3) := by decide +kernel
theorem dX12_skip_144 : decode cX12_skip 144 = .ok (.iconst 4, 1) := by decide +kernel
theorem dX12_skip_145 : decode cX12_skip 145 = .ok (.putfield 157, 3) := by decide +kernel
theorem dX12_skip_148 : decode cX12_skip 148 = .ok (.aload_n 0, 1) := by decide +kernel
theorem dX12_skip_149 : decode cX12_skip 149 = .ok (.iload_n 1, 1) := by decide +kernel
theorem dX12_skip_150 : decode cX12_skip 150 = .ok (.putfield 167, 3) := by decide +kernel
theorem dX12_skip_153 : decode cX12_skip 153 = .ok (.aload_n 0, 1) := by decide +kernel
theorem dX12_skip_154 : decode cX12_skip 154 = .ok (.dup, 1) := by decide +kernel
theorem dX12_skip_155 : decode cX12_skip 155 = .ok (.getfield 21, 3) := by decide +kernel
theorem dX12_skip_158 : decode cX12_skip 158 = .ok (.iconst 1, 1) := by decide +kernel
theorem dX12_skip_159 : decode cX12_skip 159 = .ok (.iadd, 1) := by decide +kernel
theorem dX12_skip_160 : decode cX12_skip 160 = .ok (.putfield 21, 3) := by decide +kernel
theorem dX12_skip_163 : decode cX12_skip 163 = .ok (.return_, 1) := by decide +kernel
theorem dX12_skip_164 : decode cX12_skip 164 = .ok (.iload_n 1, 1) := by decide +kernel
theorem dX12_skip_165 : decode cX12_skip 165 = .ok (.invokestatic 160, 3) := by decide +kernel
theorem dX12_skip_168 : decode cX12_skip 168 = .ok (.istore_n 2, 1) := by decide +kernel
theorem dX12_skip_169 : decode cX12_skip 169 = .ok (.iconst 1, 1) := by decide +kernel
theorem dX12_skip_170 : decode cX12_skip 170 = .ok (.istore_n 3, 1) := by decide +kernel
theorem dX12_skip_171 : decode cX12_skip 171 = .ok (.aload_n 0, 1) := by decide +kernel
theorem dX12_skip_172 : decode cX12_skip 172 = .ok (.lconst 0, 1) := by decide +kernel
theorem dX12_skip_173 : decode cX12_skip 173 = .ok (.putfield 170, 3) := by decide +kernel
theorem dX12_skip_176 : decode cX12_skip 176 = .ok (.aload_n 0, 1) := by decide +kernel
theorem dX12_skip_177 : decode cX12_skip 177 = .ok (.iconst 0, 1) := by decide +kernel
theorem dX12_skip_178 : decode cX12_skip 178 = .ok (.putfield 167, 3) := by decide +kernel
theorem dX12_skip_181 : decode cX12_skip 181 = .ok (.aload_n 0, 1) := by decide +kernel
theorem dX12_skip_182 : decode cX12_skip 182 = .ok (.invokevirtual 147, 3) := by decide +kernel
theorem dX12_skip_185 : decode cX12_skip 185 = .ok (.invokestatic 160, 3) := by decide +kernel
theorem dX12_skip_188 : decode cX12_skip 188 = .ok (.ifCond .ne 13, 3) := by decide +kernel
theorem dX12_skip_191 : decode cX12_skip 191 = .ok (.aload_n 0, 1) := by decide +kernel
theorem dX12_skip_192 : decode cX12_skip 192 = .ok (.invokevirtual 147, 3) := by decide +kernel
theorem dX12_skip_195 : decode cX12_skip 195 = .ok (.invokestatic 164, 3) := by decide +kernel
theorem dX12_skip_198 : decode cX12_skip 198 = .ok (.ifCond .eq 100, 3) := by decide +kernel
theorem dX12_skip_201 : decode cX12_skip 201 = .ok (.iload_n 3, 1) := by decide +kernel
theorem dX12_skip_202 : decode cX12_skip 202 = .ok (.ifCond .eq 18, 3) := by decide +kernel
theorem dX12_skip_205 : decode cX12_skip 205 = .ok (.aload_n 0, 1) := by decide +kernel
theorem dX12_skip_206 : decode cX12_skip 206 = .ok (.invokevirtual 147, 3) := by decide +kernel
theorem dX12_skip_209 : decode cX12_skip 209 = .ok (.invokestatic 160, 3) := by decide +kernel
theorem dX12_skip_212 : decode cX12_skip 212 = .ok (.iload_n 2, 1) := by decide +kernel
theorem dX12_skip_213 : decode cX12_skip 213 = .ok (.if_icmp .ne 7, 3) := by decide +kernel
theorem dX12_skip_216 : decode cX12_skip 216 = .ok (.iconst 1, 1) := by decide +kernel
theorem dX12_skip_217 : decode cX12_skip 217 = .ok (.goto 4, 3) := by decide +kernel
theorem dX12_skip_220 : decode cX12_skip 220 = .ok (.iconst 0, 1) := by decide +kernel
theorem dX12_skip_221 : decode cX12_skip 221 = .ok (.istore_n 3, 1) := by decide +kernel
theorem dX12_skip_222 : decode cX12_skip 222 = .ok (.aload_n 0, 1) := by decide +kernel
theorem dX12_skip_223 : decode cX12_skip 223 = .ok (.getfield 154, 3) := by decide +kernel
theorem dX12_skip_226 : decode cX12_skip 226 = .ok (.bipush 7, 2) := by decide +kernel
theorem dX12_skip_228 : decode cX12_skip 228 = .ok (.if_icmp .ge 20, 3) := by decide +kernel
theorem dX12_skip_231 : decode cX12_skip 231 = .ok (.aload_n 0, 1) := by decide +kernel
theorem dX12_skip_232 : decode cX12_skip 232 = .ok (.aload_n 0, 1) := by decide +kernel
theorem dX12_skip_233 : decode cX12_skip 233 = .ok (.getfield 170, 3) := by decide +kernel
theorem dX12_skip_236 : decode cX12_skip 236 = .ok (.bipush 8, 2) := by decide +kernel
theorem dX12_skip_238 : decode cX12_skip 238 = .ok (.lshl, 1) := by decide +kernel
theorem dX12_skip_239 : decode cX12_skip 239 = .ok (.aload_n 0, 1) := by decide +kernel
theorem dX12_skip_240 : decode cX12_skip 240 = .ok (.invokevirtual 147, 3) := by decide +kernel
theorem dX12_skip_243 : decode cX12_skip 243 = .ok (.i2l, 1) := by decide +kernel
theorem dX12_skip_244 : decode cX12_skip 244 = .ok (.lor, 1) := by decide +kernel
theorem dX12_skip_245 : decode cX12_skip 245 = .ok (.putfield 170, 3) := by decide +kernel
theorem dX12_skip_248 : decode cX12_skip 248 = .ok (.aload_n 0, 1) := by decide +kernel
theorem dX12_skip_249 : decode cX12_skip 249 = .ok (.getfield 154, 3) := by decide +kernel
theorem dX12_skip_252 : decode cX12_skip 252 = .ok (.iconst 2, 1) := by decide +kernel
theorem dX12_skip_253 : decode cX12_skip 253 = .ok (.if_icmp .ge 22, 3) := by decide +kernel
theorem dX12_skip_256 : decode cX12_skip 256 = .ok (.aload_n 0, 1) := by decide +kernel
theorem dX12_skip_257 : decode cX12_skip 257 = .ok (.bipush 10, 2) := by decide +kernel
theorem dX12_skip_259 : decode cX12_skip 259 = .ok (.aload_n 0, 1) := by decide +kernel
theorem dX12_skip_260 : decode cX12_skip 260 = .ok (.getfield 167, 3) := by decide +kernel
theorem dX12_skip_263 : decode cX12_skip 263 = .ok (.imul, 1) := by decide +kernel
theorem dX12_skip_264 : decode cX12_skip 264 = .ok (.aload_n 0, 1) := by decide +kernel
theorem dX12_skip_265 : decode cX12_skip 265 = .ok (.invokevirtual 147, 3) := by decide +kernel
theorem dX12_skip_268 : decode cX12_skip 268 = .ok (.iadd, 1) := by decide +kernel
theorem dX12_skip_269 : decode cX12_skip 269 = .ok (.bipush 48, 2) := by decide +kernel
theorem dX12_skip_271 : decode cX12_skip 271 = .ok (.isub, 1) := by decide +kernel
theorem dX12_skip_272 : decode cX12_skip 272 = .ok (.putfield 167, 3) := by decide +kernel
theorem dX12_skip_275 : decode cX12_skip 275 = .ok (.aload_n 0, 1) := by decide +kernel
theorem dX12_skip_276 : decode cX12_skip 276 = .ok (.dup, 1) := by decide +kernel
theorem dX12_skip_277 : decode cX12_skip 277 = .ok (.getfield 154, 3) := by decide +kernel
theorem dX12_skip_280 : decode cX12_skip 280 = .ok (.iconst 1, 1) := by decide +kernel
theorem dX12_skip_281 : decode cX12_skip 281 = .ok (.iadd, 1) := by decide +kernel
theorem dX12_skip_282 : decode cX12_skip 282 = .ok (.putfield 154, 3) := by decide +kernel
theorem dX12_skip_285 : decode cX12_skip 285 = .ok (.aload_n 0, 1) := by decide +kernel
theorem dX12_skip_286 : decode cX12_skip 286 = .ok (.dup, 1) := by decide +kernel
theorem dX12_skip_287 : decode cX12_skip 287 = .ok (.getfield 21, 3) := by decide +kernel
theorem dX12_skip_290 : decode cX12_skip 290 = .ok (.iconst 1, 1) := by decide +kernel
theorem dX12_skip_291 : decode cX12_skip 291 = .ok (.iadd, 1) := by decide +kernel
theorem dX12_skip_292 : decode cX12_skip 292 = .ok (.putfield 21, 3) := by decide +kernel
theorem dX12_skip_295 : decode cX12_skip 295 = .ok (.goto (-114), 3) := by decide +kernel
theorem dX12_skip_298 : decode cX12_skip 298 = .ok (.aload_n 0, 1) := by decide +kernel
theorem dX12_skip_299 : decode cX12_skip 299 = .ok (.iload_n 3, 1) := by decide +kernel
theorem dX12_skip_300 : decode cX12_skip 300 = .ok (.ifCond .eq 20, 3) := by decide +kernel
theorem dX12_skip_303 : decode cX12_skip 303 = .ok (.aload_n 0, 1) := by decide +kernel
theorem dX12_skip_304 : decode cX12_skip 304 = .ok (.getfield 154, 3) := by decide +kernel
theorem dX12_skip_307 : decode cX12_skip 307 = .ok (.iload_n 2, 1) := by decide +kernel
theorem dX12_skip_308 : decode cX12_skip 308 = .ok (.ifCond .eq 8, 3) := by decide +kernel
theorem dX12_skip_311 : decode cX12_skip 311 = .ok (.bipush 7, 2) := by decide +kernel
theorem dX12_skip_313 : decode cX12_skip 313 = .ok (.goto 4, 3) := by decide +kernel
theorem dX12_skip_316 : decode cX12_skip 316 = .ok (.iconst 2, 1) := by decide +kernel
theorem dX12_skip_317 : decode cX12_skip 317 = .ok (.if_icmp .le 7, 3) := by decide +kernel
theorem dX12_skip_320 : decode cX12_skip 320 = .ok (.iconst 4, 1) := by decide +kernel
theorem dX12_skip_321 : decode cX12_skip 321 = .ok (.goto 12, 3) := by decide +kernel
theorem dX12_skip_324 : decode cX12_skip 324 = .ok (.iload_n 2, 1) := by decide +kernel
theorem dX12_skip_325 : decode cX12_skip 325 = .ok (.ifCond .eq 7, 3) := by decide +kernel
theorem dX12_skip_328 : decode cX12_skip 328 = .ok (.iconst 1, 1) := by decide +kernel
theorem dX12_skip_329 : decode cX12_skip 329 = .ok (.goto 4, 3) := by decide +kernel
theorem dX12_skip_332 : decode cX12_skip 332 = .ok (.iconst 2, 1) := by decide +kernel
theorem dX12_skip_333 : decode cX12_skip 333 = .ok (.putfield 157, 3) := by decide +kernel
theorem dX12_skip_336 : decode cX12_skip 336 = .ok (.return_, 1) := by decide +kernel
theorem dX12_bad_0 : decode cX12_bad 0 = .ok (.aload_n 0, 1) := by decide +kernel
theorem dX12_bad_1 : decode cX12_bad 1 = .ok (.iload_n 1, 1) := by decide +kernel
theorem dX12_bad_2 : decode cX12_bad 2 = .ok (.putfield 174, 3) := by decide +kernel
theorem dX12_bad_5 : decode cX12_bad 5 = .ok (.aload_n 0, 1) := by decide +kernel
theorem dX12_bad_6 : decode cX12_bad 6 = .ok (.aload_n 0, 1) := by decide +kernel
theorem dX12_bad_7 : decode cX12_bad 7 = .ok (.getfield 151, 3) := by decide +kernel
theorem dX12_bad_10 : decode cX12_bad 10 = .ok (.putfield 177, 3) := by decide +kernel
theorem dX12_bad_13 : decode cX12_bad 13 = .ok (.iconst 0, 1) := by decide +kernel
theorem dX12_bad_14 : decode cX12_bad 14 = .ok (.ireturn, 1) := by decide +kernel
theorem dX12_isWord_0 : decode cX12_isWord 0 = .ok (.aload_n 0, 1) := by decide +kernel
theorem dX12_isWord_1 : decode cX12_isWord 1 = .ok (.getfield 157, 3) := by decide +kernel
theorem dX12_isWord_4 : decode cX12_isWord 4 = .ok (.iconst 1, 1) := by decide +kernel
theorem dX12_isWord_5 : decode cX12_isWord 5 = .ok (.if_icmp .ne 16, 3) := by decide +kernel
theorem dX12_isWord_8 : decode cX12_isWord 8 = .ok (.aload_n 0, 1) := by decide +kernel
theorem dX12_isWord_9 : decode cX12_isWord 9 = .ok (.getfield 170, 3) := by decide +kernel
theorem dX12_isWord_12 : decode cX12_isWord 12 = .ok (.lload_n 1, 1) := by decide +kernel
theorem dX12_isWord_13 : decode cX12_isWord 13 = .ok (.lcmp, 1) := by decide +kernel
theorem dX12_isWord_14 : decode cX12_isWord 14 = .ok (.ifCond .ne 7, 3) := by decide +kernel
theorem dX12_isWord_17 : decode cX12_isWord 17 = .ok (.iconst 1, 1) := by decide +kernel
theorem dX12_isWord_18 : decode cX12_isWord 18 = .ok (.goto 4, 3) := by decide +kernel
theorem dX12_isWord_21 : decode cX12_isWord 21 = .ok (.iconst 0, 1) := by decide +kernel
theorem dX12_isWord_22 : decode cX12_isWord 22 = .ok (.ireturn, 1) := by decide +kernel
theorem dX12_isSign_0 : decode cX12_isSign 0 = .ok (.aload_n 0, 1) := by decide +kernel
theorem dX12_isSign_1 : decode cX12_isSign 1 = .ok (.getfield 157, 3) := by decide +kernel
theorem dX12_isSign_4 : decode cX12_isSign 4 = .ok (.iconst 3, 1) := by decide +kernel
theorem dX12_isSign_5 : decode cX12_isSign 5 = .ok (.if_icmp .ne 15, 3) := by decide +kernel
theorem dX12_isSign_8 : decode cX12_isSign 8 = .ok (.aload_n 0, 1) := by decide +kernel
theorem dX12_isSign_9 : decode cX12_isSign 9 = .ok (.getfield 167, 3) := by decide +kernel
theorem dX12_isSign_12 : decode cX12_isSign 12 = .ok (.iload_n 1, 1) := by decide +kernel
theorem dX12_isSign_13 : decode cX12_isSign 13 = .ok (.if_icmp .ne 7, 3) := by decide +kernel
theorem dX12_isSign_16 : decode cX12_isSign 16 = .ok (.iconst 1, 1) := by decide +kernel
theorem dX12_isSign_17 : decode cX12_isSign 17 = .ok (.goto 4, 3) := by decide +kernel
theorem dX12_isSign_20 : decode cX12_isSign 20 = .ok (.iconst 0, 1) := by decide +kernel
theorem dX12_isSign_21 : decode cX12_isSign 21 = .ok (.ireturn, 1) := by decide +kernel
theorem dX12_sign_0 : decode cX12_sign 0 = .ok (.aload_n 0, 1) := by decide +kernel
theorem dX12_sign_1 : decode cX12_sign 1 = .ok (.iload_n 1, 1) := by decide +kernel
theorem dX12_sign_2 : decode cX12_sign 2 = .ok (.invokevirtual 180, 3) := by decide +kernel
theorem dX12_sign_5 : decode cX12_sign 5 = .ok (.ifCond .ne 9, 3) := by decide +kernel
theorem dX12_sign_8 : decode cX12_sign 8 = .ok (.aload_n 0, 1) := by decide +kernel
theorem dX12_sign_9 : decode cX12_sign 9 = .ok (.iconst 1, 1) := by decide +kernel
theorem dX12_sign_10 : decode cX12_sign 10 = .ok (.invokevirtual 183, 3) := by decide +kernel
theorem dX12_sign_13 : decode cX12_sign 13 = .ok (.ireturn, 1) := by decide +kernel
theorem dX12_sign_14 : decode cX12_sign 14 = .ok (.aload_n 0, 1) := by decide +kernel
theorem dX12_sign_15 : decode cX12_sign 15 = .ok (.invokevirtual 186, 3) := by decide +kernel
theorem dX12_sign_18 : decode cX12_sign 18 = .ok (.iconst 1, 1) := by decide +kernel
theorem dX12_sign_19 : decode cX12_sign 19 = .ok (.ireturn, 1) := by decide +kernel
theorem dX12_isName_0 : decode cX12_isName 0 = .ok (.aload_n 0, 1) := by decide +kernel
theorem dX12_isName_1 : decode cX12_isName 1 = .ok (.getfield 157, 3) := by decide +kernel
theorem dX12_isName_4 : decode cX12_isName 4 = .ok (.iconst 1, 1) := by decide +kernel
theorem dX12_isName_5 : decode cX12_isName 5 = .ok (.if_icmp .ne 7, 3) := by decide +kernel
theorem dX12_isName_8 : decode cX12_isName 8 = .ok (.iconst 1, 1) := by decide +kernel
theorem dX12_isName_9 : decode cX12_isName 9 = .ok (.goto 4, 3) := by decide +kernel
theorem dX12_isName_12 : decode cX12_isName 12 = .ok (.iconst 0, 1) := by decide +kernel
theorem dX12_isName_13 : decode cX12_isName 13 = .ok (.istore_n 1, 1) := by decide +kernel
theorem dX12_isName_14 : decode cX12_isName 14 = .ok (.iconst 0, 1) := by decide +kernel
theorem dX12_isName_15 : decode cX12_isName 15 = .ok (.istore_n 2, 1) := by decide +kernel
theorem dX12_isName_16 : decode cX12_isName 16 = .ok (.iload_n 2, 1) := by decide +kernel
theorem dX12_isName_17 : decode cX12_isName 17 = .ok (.bipush 24, 2) := by decide +kernel
theorem dX12_isName_19 : decode cX12_isName 19 = .ok (.if_icmp .ge 33, 3) := by decide +kernel
theorem dX12_isName_22 : decode cX12_isName 22 = .ok (.iload_n 1, 1) := by decide +kernel
theorem dX12_isName_23 : decode cX12_isName 23 = .ok (.ifCond .eq 21, 3) := by decide +kernel
theorem dX12_isName_26 : decode cX12_isName 26 = .ok (.aload_n 0, 1) := by decide +kernel
theorem dX12_isName_27 : decode cX12_isName 27 = .ok (.getfield 170, 3) := by decide +kernel
theorem dX12_isName_30 : decode cX12_isName 30 = .ok (.aload_n 0, 1) := by decide +kernel
theorem dX12_isName_31 : decode cX12_isName 31 = .ok (.getfield 47, 3) := by decide +kernel
theorem dX12_isName_34 : decode cX12_isName 34 = .ok (.iload_n 2, 1) := by decide +kernel
theorem dX12_isName_35 : decode cX12_isName 35 = .ok (.laload, 1) := by decide +kernel
theorem dX12_isName_36 : decode cX12_isName 36 = .ok (.lcmp, 1) := by decide +kernel
theorem dX12_isName_37 : decode cX12_isName 37 = .ok (.ifCond .eq 7, 3) := by decide +kernel
theorem dX12_isName_40 : decode cX12_isName 40 = .ok (.iconst 1, 1) := by decide +kernel
theorem dX12_isName_41 : decode cX12_isName 41 = .ok (.goto 4, 3) := by decide +kernel
theorem dX12_isName_44 : decode cX12_isName 44 = .ok (.iconst 0, 1) := by decide +kernel
theorem dX12_isName_45 : decode cX12_isName 45 = .ok (.istore_n 1, 1) := by decide +kernel
theorem dX12_isName_46 : decode cX12_isName 46 = .ok (.iinc 2 1, 3) := by decide +kernel
theorem dX12_isName_49 : decode cX12_isName 49 = .ok (.goto (-33), 3) := by decide +kernel
theorem dX12_isName_52 : decode cX12_isName 52 = .ok (.iload_n 1, 1) := by decide +kernel
theorem dX12_isName_53 : decode cX12_isName 53 = .ok (.ireturn, 1) := by decide +kernel
theorem dX12_takes_0 : decode cX12_takes 0 = .ok (.aload_n 0, 1) := by decide +kernel
theorem dX12_takes_1 : decode cX12_takes 1 = .ok (.getfield 157, 3) := by decide +kernel
theorem dX12_takes_4 : decode cX12_takes 4 = .ok (.iconst 2, 1) := by decide +kernel
theorem dX12_takes_5 : decode cX12_takes 5 = .ok (.if_icmp .eq 9, 3) := by decide +kernel
theorem dX12_takes_8 : decode cX12_takes 8 = .ok (.aload_n 0, 1) := by decide +kernel
theorem dX12_takes_9 : decode cX12_takes 9 = .ok (.iconst 1, 1) := by decide +kernel
theorem dX12_takes_10 : decode cX12_takes 10 = .ok (.invokevirtual 183, 3) := by decide +kernel
theorem dX12_takes_13 : decode cX12_takes 13 = .ok (.ireturn, 1) := by decide +kernel
theorem dX12_takes_14 : decode cX12_takes 14 = .ok (.aload_n 0, 1) := by decide +kernel
theorem dX12_takes_15 : decode cX12_takes 15 = .ok (.getfield 167, 3) := by decide +kernel
theorem dX12_takes_18 : decode cX12_takes 18 = .ok (.iload_n 1, 1) := by decide +kernel
theorem dX12_takes_19 : decode cX12_takes 19 = .ok (.iload_n 2, 1) := by decide +kernel
theorem dX12_takes_20 : decode cX12_takes 20 = .ok (.invokestatic 189, 3) := by decide +kernel
theorem dX12_takes_23 : decode cX12_takes 23 = .ok (.ifCond .ne 9, 3) := by decide +kernel
theorem dX12_takes_26 : decode cX12_takes 26 = .ok (.aload_n 0, 1) := by decide +kernel
theorem dX12_takes_27 : decode cX12_takes 27 = .ok (.iconst 2, 1) := by decide +kernel
theorem dX12_takes_28 : decode cX12_takes 28 = .ok (.invokevirtual 183, 3) := by decide +kernel
theorem dX12_takes_31 : decode cX12_takes 31 = .ok (.ireturn, 1) := by decide +kernel
theorem dX12_takes_32 : decode cX12_takes 32 = .ok (.aload_n 0, 1) := by decide +kernel
theorem dX12_takes_33 : decode cX12_takes 33 = .ok (.aload_n 0, 1) := by decide +kernel
theorem dX12_takes_34 : decode cX12_takes 34 = .ok (.getfield 167, 3) := by decide +kernel
theorem dX12_takes_37 : decode cX12_takes 37 = .ok (.putfield 193, 3) := by decide +kernel
theorem dX12_takes_40 : decode cX12_takes 40 = .ok (.aload_n 0, 1) := by decide +kernel
theorem dX12_takes_41 : decode cX12_takes 41 = .ok (.invokevirtual 186, 3) := by decide +kernel
theorem dX12_takes_44 : decode cX12_takes 44 = .ok (.iconst 1, 1) := by decide +kernel
theorem dX12_takes_45 : decode cX12_takes 45 = .ok (.ireturn, 1) := by decide +kernel
theorem dX12_find_0 : decode cX12_find 0 = .ok (.iconst 0, 1) := by decide +kernel
theorem dX12_find_1 : decode cX12_find 1 = .ok (.istore_n 3, 1) := by decide +kernel
theorem dX12_find_2 : decode cX12_find 2 = .ok (.iload_n 3, 1) := by decide +kernel
theorem dX12_find_3 : decode cX12_find 3 = .ok (.iload_n 2, 1) := by decide +kernel
theorem dX12_find_4 : decode cX12_find 4 = .ok (.if_icmp .ge 27, 3) := by decide +kernel
theorem dX12_find_7 : decode cX12_find 7 = .ok (.aload_n 0, 1) := by decide +kernel
theorem dX12_find_8 : decode cX12_find 8 = .ok (.getfield 43, 3) := by decide +kernel
theorem dX12_find_11 : decode cX12_find 11 = .ok (.iload_n 1, 1) := by decide +kernel
theorem dX12_find_12 : decode cX12_find 12 = .ok (.iload_n 3, 1) := by decide +kernel
theorem dX12_find_13 : decode cX12_find 13 = .ok (.iadd, 1) := by decide +kernel
theorem dX12_find_14 : decode cX12_find 14 = .ok (.laload, 1) := by decide +kernel
theorem dX12_find_15 : decode cX12_find 15 = .ok (.aload_n 0, 1) := by decide +kernel
theorem dX12_find_16 : decode cX12_find 16 = .ok (.getfield 170, 3) := by decide +kernel
theorem dX12_find_19 : decode cX12_find 19 = .ok (.lcmp, 1) := by decide +kernel
theorem dX12_find_20 : decode cX12_find 20 = .ok (.ifCond .ne 5, 3) := by decide +kernel
theorem dX12_find_23 : decode cX12_find 23 = .ok (.iload_n 3, 1) := by decide +kernel
theorem dX12_find_24 : decode cX12_find 24 = .ok (.ireturn, 1) := by decide +kernel
theorem dX12_find_25 : decode cX12_find 25 = .ok (.iinc 3 1, 3) := by decide +kernel
theorem dX12_find_28 : decode cX12_find 28 = .ok (.goto (-26), 3) := by decide +kernel
theorem dX12_find_31 : decode cX12_find 31 = .ok (.iconst (-1), 1) := by decide +kernel
theorem dX12_find_32 : decode cX12_find 32 = .ok (.ireturn, 1) := by decide +kernel
