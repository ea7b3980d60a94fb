theorem dX10_hasAsk_0 : decode cX10_hasAsk 0 = .ok (.iload_n 1, 1) := by decide +kernel
theorem dX10_hasAsk_1 : decode cX10_hasAsk 1 = .ok (.ifCond .lt 18, 3) := by decide +kernel
theorem dX10_hasAsk_4 : decode cX10_hasAsk 4 = .ok (.iload_n 1, 1) := by decide +kernel
theorem dX10_hasAsk_5 : decode cX10_hasAsk 5 = .ok (.aload_n 0, 1) := by decide +kernel
theorem dX10_hasAsk_6 : decode cX10_hasAsk 6 = .ok (.getfield 12, 3) := by decide +kernel
theorem dX10_hasAsk_9 : decode cX10_hasAsk 9 = .ok (.getfield 52, 3) := by decide +kernel
theorem dX10_hasAsk_12 : decode cX10_hasAsk 12 = .ok (.if_icmp .ge 7, 3) := by decide +kernel
theorem dX10_hasAsk_15 : decode cX10_hasAsk 15 = .ok (.iconst 1, 1) := by decide +kernel
theorem dX10_hasAsk_16 : decode cX10_hasAsk 16 = .ok (.goto 4, 3) := by decide +kernel
theorem dX10_hasAsk_19 : decode cX10_hasAsk 19 = .ok (.iconst 0, 1) := by decide +kernel
theorem dX10_hasAsk_20 : decode cX10_hasAsk 20 = .ok (.ireturn, 1) := by decide +kernel
theorem dX10_hasSet_0 : decode cX10_hasSet 0 = .ok (.iload_n 1, 1) := by decide +kernel
theorem dX10_hasSet_1 : decode cX10_hasSet 1 = .ok (.aload_n 0, 1) := by decide +kernel
theorem dX10_hasSet_2 : decode cX10_hasSet 2 = .ok (.getfield 12, 3) := by decide +kernel
theorem dX10_hasSet_5 : decode cX10_hasSet 5 = .ok (.invokevirtual 55, 3) := by decide +kernel
theorem dX10_hasSet_8 : decode cX10_hasSet 8 = .ok (.iconst (-1), 1) := by decide +kernel
theorem dX10_hasSet_9 : decode cX10_hasSet 9 = .ok (.ixor, 1) := by decide +kernel
theorem dX10_hasSet_10 : decode cX10_hasSet 10 = .ok (.iand, 1) := by decide +kernel
theorem dX10_hasSet_11 : decode cX10_hasSet 11 = .ok (.ifCond .ne 7, 3) := by decide +kernel
theorem dX10_hasSet_14 : decode cX10_hasSet 14 = .ok (.iconst 1, 1) := by decide +kernel
theorem dX10_hasSet_15 : decode cX10_hasSet 15 = .ok (.goto 4, 3) := by decide +kernel
theorem dX10_hasSet_18 : decode cX10_hasSet 18 = .ok (.iconst 0, 1) := by decide +kernel
theorem dX10_hasSet_19 : decode cX10_hasSet 19 = .ok (.ireturn, 1) := by decide +kernel
theorem dX10_here_0 : decode cX10_here 0 = .ok (.aload_n 0, 1) := by decide +kernel
theorem dX10_here_1 : decode cX10_here 1 = .ok (.getfield 21, 3) := by decide +kernel
theorem dX10_here_4 : decode cX10_here 4 = .ok (.getfield 59, 3) := by decide +kernel
theorem dX10_here_7 : decode cX10_here 7 = .ok (.iconst 1, 1) := by decide +kernel
theorem dX10_here_8 : decode cX10_here 8 = .ok (.if_icmp .ne 13, 3) := by decide +kernel
theorem dX10_here_11 : decode cX10_here 11 = .ok (.aload_n 0, 1) := by decide +kernel
theorem dX10_here_12 : decode cX10_here 12 = .ok (.getfield 21, 3) := by decide +kernel
theorem dX10_here_15 : decode cX10_here 15 = .ok (.getfield 62, 3) := by decide +kernel
theorem dX10_here_18 : decode cX10_here 18 = .ok (.goto 20, 3) := by decide +kernel
theorem dX10_here_21 : decode cX10_here 21 = .ok (.aload_n 0, 1) := by decide +kernel
theorem dX10_here_22 : decode cX10_here 22 = .ok (.getfield 12, 3) := by decide +kernel
theorem dX10_here_25 : decode cX10_here 25 = .ok (.invokevirtual 55, 3) := by decide +kernel
theorem dX10_here_28 : decode cX10_here 28 = .ok (.aload_n 0, 1) := by decide +kernel
theorem dX10_here_29 : decode cX10_here 29 = .ok (.getfield 21, 3) := by decide +kernel
theorem dX10_here_32 : decode cX10_here 32 = .ok (.getfield 62, 3) := by decide +kernel
theorem dX10_here_35 : decode cX10_here 35 = .ok (.iconst (-1), 1) := by decide +kernel
theorem dX10_here_36 : decode cX10_here 36 = .ok (.ixor, 1) := by decide +kernel
theorem dX10_here_37 : decode cX10_here 37 = .ok (.iand, 1) := by decide +kernel
theorem dX10_here_38 : decode cX10_here 38 = .ok (.ireturn, 1) := by decide +kernel
theorem dX10_around_0 : decode cX10_around 0 = .ok (.aload_n 0, 1) := by decide +kernel
theorem dX10_around_1 : decode cX10_around 1 = .ok (.getfield 21, 3) := by decide +kernel
theorem dX10_around_4 : decode cX10_around 4 = .ok (.getfield 62, 3) := by decide +kernel
theorem dX10_around_7 : decode cX10_around 7 = .ok (.iload_n 1, 1) := by decide +kernel
theorem dX10_around_8 : decode cX10_around 8 = .ok (.invokestatic 65, 3) := by decide +kernel
theorem dX10_around_11 : decode cX10_around 11 = .ok (.iconst 1, 1) := by decide +kernel
theorem dX10_around_12 : decode cX10_around 12 = .ok (.if_icmp .ne 13, 3) := by decide +kernel
theorem dX10_around_15 : decode cX10_around 15 = .ok (.aload_n 0, 1) := by decide +kernel
theorem dX10_around_16 : decode cX10_around 16 = .ok (.getfield 21, 3) := by decide +kernel
theorem dX10_around_19 : decode cX10_around 19 = .ok (.getfield 62, 3) := by decide +kernel
theorem dX10_around_22 : decode cX10_around 22 = .ok (.goto 20, 3) := by decide +kernel
theorem dX10_around_25 : decode cX10_around 25 = .ok (.aload_n 0, 1) := by decide +kernel
theorem dX10_around_26 : decode cX10_around 26 = .ok (.getfield 12, 3) := by decide +kernel
theorem dX10_around_29 : decode cX10_around 29 = .ok (.invokevirtual 55, 3) := by decide +kernel
theorem dX10_around_32 : decode cX10_around 32 = .ok (.aload_n 0, 1) := by decide +kernel
theorem dX10_around_33 : decode cX10_around 33 = .ok (.getfield 21, 3) := by decide +kernel
theorem dX10_around_36 : decode cX10_around 36 = .ok (.getfield 62, 3) := by decide +kernel
theorem dX10_around_39 : decode cX10_around 39 = .ok (.iconst (-1), 1) := by decide +kernel
theorem dX10_around_40 : decode cX10_around 40 = .ok (.ixor, 1) := by decide +kernel
theorem dX10_around_41 : decode cX10_around 41 = .ok (.iand, 1) := by decide +kernel
theorem dX10_around_42 : decode cX10_around 42 = .ok (.ireturn, 1) := by decide +kernel
theorem dX10_partedKin_0 : decode cX10_partedKin 0 = .ok (.iconst 0, 1) := by decide +kernel
theorem dX10_partedKin_1 : decode cX10_partedKin 1 = .ok (.istore_n 1, 1) := by decide +kernel
theorem dX10_partedKin_2 : decode cX10_partedKin 2 = .ok (.iconst 0, 1) := by decide +kernel
theorem dX10_partedKin_3 : decode cX10_partedKin 3 = .ok (.istore_n 2, 1) := by decide +kernel
theorem dX10_partedKin_4 : decode cX10_partedKin 4 = .ok (.iload_n 2, 1) := by decide +kernel
theorem dX10_partedKin_5 : decode cX10_partedKin 5 = .ok (.aload_n 0, 1) := by decide +kernel
theorem dX10_partedKin_6 : decode cX10_partedKin 6 = .ok (.getfield 12, 3) := by decide +kernel
theorem dX10_partedKin_9 : decode cX10_partedKin 9 = .ok (.getfield 49, 3) := by decide +kernel
theorem dX10_partedKin_12 : decode cX10_partedKin 12 = .ok (.if_icmp .ge 49, 3) := by decide +kernel
theorem dX10_partedKin_15 : decode cX10_partedKin 15 = .ok (.aload_n 0, 1) := by decide +kernel
theorem dX10_partedKin_16 : decode cX10_partedKin 16 = .ok (.getfield 21, 3) := by decide +kernel
theorem dX10_partedKin_19 : decode cX10_partedKin 19 = .ok (.getfield 62, 3) := by decide +kernel
theorem dX10_partedKin_22 : decode cX10_partedKin 22 = .ok (.iload_n 2, 1) := by decide +kernel
theorem dX10_partedKin_23 : decode cX10_partedKin 23 = .ok (.invokestatic 65, 3) := by decide +kernel
theorem dX10_partedKin_26 : decode cX10_partedKin 26 = .ok (.iconst 1, 1) := by decide +kernel
theorem dX10_partedKin_27 : decode cX10_partedKin 27 = .ok (.if_icmp .ne 28, 3) := by decide +kernel
theorem dX10_partedKin_30 : decode cX10_partedKin 30 = .ok (.iload_n 1, 1) := by decide +kernel
theorem dX10_partedKin_31 : decode cX10_partedKin 31 = .ok (.aload_n 0, 1) := by decide +kernel
theorem dX10_partedKin_32 : decode cX10_partedKin 32 = .ok (.getfield 12, 3) := by decide +kernel
theorem dX10_partedKin_35 : decode cX10_partedKin 35 = .ok (.getfield 69, 3) := by decide +kernel
theorem dX10_partedKin_38 : decode cX10_partedKin 38 = .ok (.iload_n 2, 1) := by decide +kernel
theorem dX10_partedKin_39 : decode cX10_partedKin 39 = .ok (.iaload, 1) := by decide +kernel
theorem dX10_partedKin_40 : decode cX10_partedKin 40 = .ok (.aload_n 0, 1) := by decide +kernel
theorem dX10_partedKin_41 : decode cX10_partedKin 41 = .ok (.getfield 21, 3) := by decide +kernel
theorem dX10_partedKin_44 : decode cX10_partedKin 44 = .ok (.getfield 62, 3) := by decide +kernel
theorem dX10_partedKin_47 : decode cX10_partedKin 47 = .ok (.iconst (-1), 1) := by decide +kernel
theorem dX10_partedKin_48 : decode cX10_partedKin 48 = .ok (.ixor, 1) := by decide +kernel
theorem dX10_partedKin_49 : decode cX10_partedKin 49 = .ok (.iand, 1) := by decide +kernel
theorem dX10_partedKin_50 : decode cX10_partedKin 50 = .ok (.invokestatic 73, 3) := by decide +kernel
theorem dX10_partedKin_53 : decode cX10_partedKin 53 = .ok (.iadd, 1) := by decide +kernel
theorem dX10_partedKin_54 : decode cX10_partedKin 54 = .ok (.istore_n 1, 1) := by decide +kernel
theorem dX10_partedKin_55 : decode cX10_partedKin 55 = .ok (.iinc 2 1, 3) := by decide +kernel
theorem dX10_partedKin_58 : decode cX10_partedKin 58 = .ok (.goto (-54), 3) := by decide +kernel
theorem dX10_partedKin_61 : decode cX10_partedKin 61 = .ok (.iload_n 1, 1) := by decide +kernel
theorem dX10_partedKin_62 : decode cX10_partedKin 62 = .ok (.ireturn, 1) := by decide +kernel
theorem dX10_spoken_0 : decode cX10_spoken 0 = .ok (.aload_n 0, 1) := by decide +kernel
theorem dX10_spoken_1 : decode cX10_spoken 1 = .ok (.getfield 12, 3) := by decide +kernel
theorem dX10_spoken_4 : decode cX10_spoken 4 = .ok (.getfield 79, 3) := by decide +kernel
theorem dX10_spoken_7 : decode cX10_spoken 7 = .ok (.iload_n 1, 1) := by decide +kernel
theorem dX10_spoken_8 : decode cX10_spoken 8 = .ok (.iaload, 1) := by decide +kernel
theorem dX10_spoken_9 : decode cX10_spoken 9 = .ok (.istore_n 3, 1) := by decide +kernel
theorem dX10_spoken_10 : decode cX10_spoken 10 = .ok (.iload_n 3, 1) := by decide +kernel
theorem dX10_spoken_11 : decode cX10_spoken 11 = .ok (.iconst (-1), 1) := by decide +kernel
theorem dX10_spoken_12 : decode cX10_spoken 12 = .ok (.if_icmp .eq 48, 3) := by decide +kernel
theorem dX10_spoken_15 : decode cX10_spoken 15 = .ok (.aload_n 0, 1) := by decide +kernel
theorem dX10_spoken_16 : decode cX10_spoken 16 = .ok (.getfield 21, 3) := by decide +kernel
theorem dX10_spoken_19 : decode cX10_spoken 19 = .ok (.getfield 82, 3) := by decide +kernel
theorem dX10_spoken_22 : decode cX10_spoken 22 = .ok (.iload_n 1, 1) := by decide +kernel
theorem dX10_spoken_23 : decode cX10_spoken 23 = .ok (.iaload, 1) := by decide +kernel
theorem dX10_spoken_24 : decode cX10_spoken 24 = .ok (.iload_n 2, 1) := by decide +kernel
theorem dX10_spoken_25 : decode cX10_spoken 25 = .ok (.invokestatic 65, 3) := by decide +kernel
theorem dX10_spoken_28 : decode cX10_spoken 28 = .ok (.ifCond .ne 32, 3) := by decide +kernel
theorem dX10_spoken_31 : decode cX10_spoken 31 = .ok (.aload_n 0, 1) := by decide +kernel
theorem dX10_spoken_32 : decode cX10_spoken 32 = .ok (.getfield 21, 3) := by decide +kernel
theorem dX10_spoken_35 : decode cX10_spoken 35 = .ok (.getfield 62, 3) := by decide +kernel
theorem dX10_spoken_38 : decode cX10_spoken 38 = .ok (.iload_n 1, 1) := by decide +kernel
theorem dX10_spoken_39 : decode cX10_spoken 39 = .ok (.invokestatic 65, 3) := by decide +kernel
theorem dX10_spoken_42 : decode cX10_spoken 42 = .ok (.aload_n 0, 1) := by decide +kernel
theorem dX10_spoken_43 : decode cX10_spoken 43 = .ok (.getfield 21, 3) := by decide +kernel
theorem dX10_spoken_46 : decode cX10_spoken 46 = .ok (.getfield 62, 3) := by decide +kernel
theorem dX10_spoken_49 : decode cX10_spoken 49 = .ok (.iload_n 3, 1) := by decide +kernel
theorem dX10_spoken_50 : decode cX10_spoken 50 = .ok (.invokestatic 65, 3) := by decide +kernel
theorem dX10_spoken_53 : decode cX10_spoken 53 = .ok (.if_icmp .ne 7, 3) := by decide +kernel
theorem dX10_spoken_56 : decode cX10_spoken 56 = .ok (.iconst 1, 1) := by decide +kernel
theorem dX10_spoken_57 : decode cX10_spoken 57 = .ok (.goto 4, 3) := by decide +kernel
theorem dX10_spoken_60 : decode cX10_spoken 60 = .ok (.iconst 0, 1) := by decide +kernel
theorem dX10_spoken_61 : decode cX10_spoken 61 = .ok (.istore 4, 2) := by decide +kernel
theorem dX10_spoken_63 : decode cX10_spoken 63 = .ok (.iload 4, 2) := by decide +kernel
theorem dX10_spoken_65 : decode cX10_spoken 65 = .ok (.ifCond .eq 7, 3) := by decide +kernel
theorem dX10_spoken_68 : decode cX10_spoken 68 = .ok (.iload_n 3, 1) := by decide +kernel
theorem dX10_spoken_69 : decode cX10_spoken 69 = .ok (.goto 4, 3) := by decide +kernel
theorem dX10_spoken_72 : decode cX10_spoken 72 = .ok (.iload_n 1, 1) := by decide +kernel
theorem dX10_spoken_73 : decode cX10_spoken 73 = .ok (.istore 5, 2) := by decide +kernel
theorem dX10_spoken_75 : decode cX10_spoken 75 = .ok (.iload 5, 2) := by decide +kernel
theorem dX10_spoken_77 : decode cX10_spoken 77 = .ok (.bipush 9, 2) := by decide +kernel
theorem dX10_spoken_79 : decode cX10_spoken 79 = .ok (.imul, 1) := by decide +kernel
theorem dX10_spoken_80 : decode cX10_spoken 80 = .ok (.iload_n 2, 1) := by decide +kernel
theorem dX10_spoken_81 : decode cX10_spoken 81 = .ok (.iadd, 1) := by decide +kernel
theorem dX10_spoken_82 : decode cX10_spoken 82 = .ok (.istore 6, 2) := by decide +kernel
theorem dX10_spoken_84 : decode cX10_spoken 84 = .ok (.aload_n 0, 1) := by decide +kernel
theorem dX10_spoken_85 : decode cX10_spoken 85 = .ok (.getfield 21, 3) := by decide +kernel
theorem dX10_spoken_88 : decode cX10_spoken 88 = .ok (.getfield 82, 3) := by decide +kernel
theorem dX10_spoken_91 : decode cX10_spoken 91 = .ok (.iload 5, 2) := by decide +kernel
theorem dX10_spoken_93 : decode cX10_spoken 93 = .ok (.iaload, 1) := by decide +kernel
theorem dX10_spoken_94 : decode cX10_spoken 94 = .ok (.iload_n 2, 1) := by decide +kernel
theorem dX10_spoken_95 : decode cX10_spoken 95 = .ok (.invokestatic 65, 3) := by decide +kernel
theorem dX10_spoken_98 : decode cX10_spoken 98 = .ok (.iconst 1, 1) := by decide +kernel
theorem dX10_spoken_99 : decode cX10_spoken 99 = .ok (.if_icmp .ne 16, 3) := by decide +kernel
theorem dX10_spoken_102 : decode cX10_spoken 102 = .ok (.aload_n 0, 1) := by decide +kernel
theorem dX10_spoken_103 : decode cX10_spoken 103 = .ok (.getfield 21, 3) := by decide +kernel
theorem dX10_spoken_106 : decode cX10_spoken 106 = .ok (.getfield 85, 3) := by decide +kernel
theorem dX10_spoken_109 : decode cX10_spoken 109 = .ok (.iload 6, 2) := by decide +kernel
theorem dX10_spoken_111 : decode cX10_spoken 111 = .ok (.iaload, 1) := by decide +kernel
theorem dX10_spoken_112 : decode cX10_spoken 112 = .ok (.goto 13, 3) := by decide +kernel
theorem dX10_spoken_115 : decode cX10_spoken 115 = .ok (.aload_n 0, 1) := by decide +kernel
theorem dX10_spoken_116 : decode cX10_spoken 116 = .ok (.getfield 21, 3) := by decide +kernel
theorem dX10_spoken_119 : decode cX10_spoken 119 = .ok (.getfield 88, 3) := by decide +kernel
theorem dX10_spoken_122 : decode cX10_spoken 122 = .ok (.iload 6, 2) := by decide +kernel
theorem dX10_spoken_124 : decode cX10_spoken 124 = .ok (.iaload, 1) := by decide +kernel
theorem dX10_spoken_125 : decode cX10_spoken 125 = .ok (.ireturn, 1) := by decide +kernel
theorem dX10_together_0 : decode cX10_together 0 = .ok (.iload_n 1, 1) := by decide +kernel
theorem dX10_together_1 : decode cX10_together 1 = .ok (.aload_n 0, 1) := by decide +kernel
theorem dX10_together_2 : decode cX10_together 2 = .ok (.getfield 21, 3) := by decide +kernel
theorem dX10_together_5 : decode cX10_together 5 = .ok (.getfield 91, 3) := by decide +kernel
theorem dX10_together_8 : decode cX10_together 8 = .ok (.iconst (-1), 1) := by decide +kernel
theorem dX10_together_9 : decode cX10_together 9 = .ok (.ixor, 1) := by decide +kernel
theorem dX10_together_10 : decode cX10_together 10 = .ok (.iand, 1) := by decide +kernel
theorem dX10_together_11 : decode cX10_together 11 = .ok (.istore_n 3, 1) := by decide +kernel
theorem dX10_together_12 : decode cX10_together 12 = .ok (.iconst 0, 1) := by decide +kernel
theorem dX10_together_13 : decode cX10_together 13 = .ok (.istore 4, 2) := by decide +kernel
theorem dX10_together_15 : decode cX10_together 15 = .ok (.iconst 0, 1) := by decide +kernel
theorem dX10_together_16 : decode cX10_together 16 = .ok (.istore 5, 2) := by decide +kernel
theorem dX10_together_18 : decode cX10_together 18 = .ok (.iload 5, 2) := by decide +kernel
theorem dX10_together_20 : decode cX10_together 20 = .ok (.aload_n 0, 1) := by decide +kernel
theorem dX10_together_21 : decode cX10_together 21 = .ok (.getfield 12, 3) := by decide +kernel
theorem dX10_together_24 : decode cX10_together 24 = .ok (.getfield 49, 3) := by decide +kernel
theorem dX10_together_27 : decode cX10_together 27 = .ok (.if_icmp .ge 31, 3) := by decide +kernel
theorem dX10_together_30 : decode cX10_together 30 = .ok (.iload_n 3, 1) := by decide +kernel
theorem dX10_together_31 : decode cX10_together 31 = .ok (.iload 5, 2) := by decide +kernel
theorem dX10_together_33 : decode cX10_together 33 = .ok (.invokestatic 65, 3) := by decide +kernel
theorem dX10_together_36 : decode cX10_together 36 = .ok (.iconst 1, 1) := by decide +kernel
theorem dX10_together_37 : decode cX10_together 37 = .ok (.if_icmp .ne 15, 3) := by decide +kernel
theorem dX10_together_40 : decode cX10_together 40 = .ok (.iload 4, 2) := by decide +kernel
theorem dX10_together_42 : decode cX10_together 42 = .ok (.aload_n 0, 1) := by decide +kernel
theorem dX10_together_43 : decode cX10_together 43 = .ok (.iload 5, 2) := by decide +kernel
theorem dX10_together_45 : decode cX10_together 45 = .ok (.iload_n 2, 1) := by decide +kernel
theorem dX10_together_46 : decode cX10_together 46 = .ok (.invokevirtual 94, 3) := by decide +kernel
theorem dX10_together_49 : decode cX10_together 49 = .ok (.iadd, 1) := by decide +kernel
theorem dX10_together_50 : decode cX10_together 50 = .ok (.istore 4, 2) := by decide +kernel
theorem dX10_together_52 : decode cX10_together 52 = .ok (.iinc 5 1, 3) := by decide +kernel
theorem dX10_together_55 : decode cX10_together 55 = .ok (.goto (-37), 3) := by decide +kernel
theorem dX10_together_58 : decode cX10_together 58 = .ok (.iload 4, 2) := by decide +kernel
theorem dX10_together_60 : decode cX10_together 60 = .ok (.ireturn, 1) := by decide +kernel
theorem dX10_isLevel_0 : decode cX10_isLevel 0 = .ok (.iload_n 1, 1) := by decide +kernel
theorem dX10_isLevel_1 : decode cX10_isLevel 1 = .ok (.aload_n 0, 1) := by decide +kernel
theorem dX10_isLevel_2 : decode cX10_isLevel 2 = .ok (.getfield 12, 3) := by decide +kernel
theorem dX10_isLevel_5 : decode cX10_isLevel 5 = .ok (.getfield 97, 3) := by decide +kernel
theorem dX10_isLevel_8 : decode cX10_isLevel 8 = .ok (.if_icmp .gt 19, 3) := by decide +kernel
theorem dX10_isLevel_11 : decode cX10_isLevel 11 = .ok (.iload_n 1, 1) := by decide +kernel
theorem dX10_isLevel_12 : decode cX10_isLevel 12 = .ok (.aload_n 0, 1) := by decide +kernel
theorem dX10_isLevel_13 : decode cX10_isLevel 13 = .ok (.getfield 12, 3) := by decide +kernel
theorem dX10_isLevel_16 : decode cX10_isLevel 16 = .ok (.getfield 97, 3) := by decide +kernel
theorem dX10_isLevel_19 : decode cX10_isLevel 19 = .ok (.ineg, 1) := by decide +kernel
theorem dX10_isLevel_20 : decode cX10_isLevel 20 = .ok (.if_icmp .lt 7, 3) := by decide +kernel
theorem dX10_isLevel_23 : decode cX10_isLevel 23 = .ok (.iconst 1, 1) := by decide +kernel
theorem dX10_isLevel_24 : decode cX10_isLevel 24 = .ok (.goto 4, 3) := by decide +kernel
theorem dX10_isLevel_27 : decode cX10_isLevel 27 = .ok (.iconst 0, 1) := by decide +kernel
theorem dX10_isLevel_28 : decode cX10_isLevel 28 = .ok (.ireturn, 1) := by decide +kernel
theorem dX10_areFoes_0 : decode cX10_areFoes 0 = .ok (.iconst 0, 1) := by decide +kernel
theorem dX10_areFoes_1 : decode cX10_areFoes 1 = .ok (.istore_n 3, 1) := by decide +kernel
theorem dX10_areFoes_2 : decode cX10_areFoes 2 = .ok (.iconst 0, 1) := by decide +kernel
theorem dX10_areFoes_3 : decode cX10_areFoes 3 = .ok (.istore 4, 2) := by decide +kernel
theorem dX10_areFoes_5 : decode cX10_areFoes 5 = .ok (.iconst 0, 1) := by decide +kernel
theorem dX10_areFoes_6 : decode cX10_areFoes 6 = .ok (.istore 5, 2) := by decide +kernel
theorem dX10_areFoes_8 : decode cX10_areFoes 8 = .ok (.iload 5, 2) := by decide +kernel
theorem dX10_areFoes_10 : decode cX10_areFoes 10 = .ok (.aload_n 0, 1) := by decide +kernel
theorem dX10_areFoes_11 : decode cX10_areFoes 11 = .ok (.getfield 12, 3) := by decide +kernel
theorem dX10_areFoes_14 : decode cX10_areFoes 14 = .ok (.getfield 52, 3) := by decide +kernel
theorem dX10_areFoes_17 : decode cX10_areFoes 17 = .ok (.if_icmp .ge 109, 3) := by decide +kernel
theorem dX10_areFoes_20 : decode cX10_areFoes 20 = .ok (.aload_n 0, 1) := by decide +kernel
theorem dX10_areFoes_21 : decode cX10_areFoes 21 = .ok (.iload_n 1, 1) := by decide +kernel
theorem dX10_areFoes_22 : decode cX10_areFoes 22 = .ok (.iload 5, 2) := by decide +kernel
theorem dX10_areFoes_24 : decode cX10_areFoes 24 = .ok (.invokevirtual 94, 3) := by decide +kernel
theorem dX10_areFoes_27 : decode cX10_areFoes 27 = .ok (.istore 6, 2) := by decide +kernel
theorem dX10_areFoes_29 : decode cX10_areFoes 29 = .ok (.aload_n 0, 1) := by decide +kernel
theorem dX10_areFoes_30 : decode cX10_areFoes 30 = .ok (.iload_n 2, 1) := by decide +kernel
theorem dX10_areFoes_31 : decode cX10_areFoes 31 = .ok (.iload 5, 2) := by decide +kernel
theorem dX10_areFoes_33 : decode cX10_areFoes 33 = .ok (.invokevirtual 94, 3) := by decide +kernel
theorem dX10_areFoes_36 : decode cX10_areFoes 36 = .ok (.istore 7, 2) := by decide +kernel
theorem dX10_areFoes_38 : decode cX10_areFoes 38 = .ok (.iload 6, 2) := by decide +kernel
theorem dX10_areFoes_40 : decode cX10_areFoes 40 = .ok (.invokestatic 100, 3) := by decide +kernel
theorem dX10_areFoes_43 : decode cX10_areFoes 43 = .ok (.iconst 5, 1) := by decide +kernel
theorem dX10_areFoes_44 : decode cX10_areFoes 44 = .ok (.if_icmp .lt 76, 3) := by decide +kernel
theorem dX10_areFoes_47 : decode cX10_areFoes 47 = .ok (.iload 7, 2) := by decide +kernel
theorem dX10_areFoes_49 : decode cX10_areFoes 49 = .ok (.invokestatic 100, 3) := by decide +kernel
theorem dX10_areFoes_52 : decode cX10_areFoes 52 = .ok (.iconst 5, 1) := by decide +kernel
theorem dX10_areFoes_53 : decode cX10_areFoes 53 = .ok (.if_icmp .lt 67, 3) := by decide +kernel
theorem dX10_areFoes_56 : decode cX10_areFoes 56 = .ok (.iload_n 3, 1) := by decide +kernel
theorem dX10_areFoes_57 : decode cX10_areFoes 57 = .ok (.iload 6, 2) := by decide +kernel
theorem dX10_areFoes_59 : decode cX10_areFoes 59 = .ok (.ifCond .le 7, 3) := by decide +kernel
theorem dX10_areFoes_62 : decode cX10_areFoes 62 = .ok (.iconst 1, 1) := by decide +kernel
theorem dX10_areFoes_63 : decode cX10_areFoes 63 = .ok (.goto 4, 3) := by decide +kernel
theorem dX10_areFoes_66 : decode cX10_areFoes 66 = .ok (.iconst 0, 1) := by decide +kernel
theorem dX10_areFoes_67 : decode cX10_areFoes 67 = .ok (.iload 7, 2) := by decide +kernel
theorem dX10_areFoes_69 : decode cX10_areFoes 69 = .ok (.ifCond .le 7, 3) := by decide +kernel
theorem dX10_areFoes_72 : decode cX10_areFoes 72 = .ok (.iconst 1, 1) := by decide +kernel
theorem dX10_areFoes_73 : decode cX10_areFoes 73 = .ok (.goto 4, 3) := by decide +kernel
theorem dX10_areFoes_76 : decode cX10_areFoes 76 = .ok (.iconst 0, 1) := by decide +kernel
theorem dX10_areFoes_77 : decode cX10_areFoes 77 = .ok (.if_icmp .eq 7, 3) := by decide +kernel
theorem dX10_areFoes_80 : decode cX10_areFoes 80 = .ok (.iconst 1, 1) := by decide +kernel
theorem dX10_areFoes_81 : decode cX10_areFoes 81 = .ok (.goto 4, 3) := by decide +kernel
theorem dX10_areFoes_84 : decode cX10_areFoes 84 = .ok (.iconst 0, 1) := by decide +kernel
theorem dX10_areFoes_85 : decode cX10_areFoes 85 = .ok (.ior, 1) := by decide +kernel
theorem dX10_areFoes_86 : decode cX10_areFoes 86 = .ok (.istore_n 3, 1) := by decide +kernel
theorem dX10_areFoes_87 : decode cX10_areFoes 87 = .ok (.iload 4, 2) := by decide +kernel
theorem dX10_areFoes_89 : decode cX10_areFoes 89 = .ok (.iload 6, 2) := by decide +kernel
theorem dX10_areFoes_91 : decode cX10_areFoes 91 = .ok (.ifCond .le 7, 3) := by decide +kernel
theorem dX10_areFoes_94 : decode cX10_areFoes 94 = .ok (.iconst 1, 1) := by decide +kernel
theorem dX10_areFoes_95 : decode cX10_areFoes 95 = .ok (.goto 4, 3) := by decide +kernel
theorem dX10_areFoes_98 : decode cX10_areFoes 98 = .ok (.iconst 0, 1) := by decide +kernel
theorem dX10_areFoes_99 : decode cX10_areFoes 99 = .ok (.iload 7, 2) := by decide +kernel
theorem dX10_areFoes_101 : decode cX10_areFoes 101 = .ok (.ifCond .le 7, 3) := by decide +kernel
theorem dX10_areFoes_104 : decode cX10_areFoes 104 = .ok (.iconst 1, 1) := by decide +kernel
theorem dX10_areFoes_105 : decode cX10_areFoes 105 = .ok (.goto 4, 3) := by decide +kernel
theorem dX10_areFoes_108 : decode cX10_areFoes 108 = .ok (.iconst 0, 1) := by decide +kernel
theorem dX10_areFoes_109 : decode cX10_areFoes 109 = .ok (.if_icmp .ne 7, 3) := by decide +kernel
theorem dX10_areFoes_112 : decode cX10_areFoes 112 = .ok (.iconst 1, 1) := by decide +kernel
theorem dX10_areFoes_113 : decode cX10_areFoes 113 = .ok (.goto 4, 3) := by decide +kernel
theorem dX10_areFoes_116 : decode cX10_areFoes 116 = .ok (.iconst 0, 1) := by decide +kernel
theorem dX10_areFoes_117 : decode cX10_areFoes 117 = .ok (.ior, 1) := by decide +kernel
theorem dX10_areFoes_118 : decode cX10_areFoes 118 = .ok (.istore 4, 2) := by decide +kernel
theorem dX10_areFoes_120 : decode cX10_areFoes 120 = .ok (.iinc 5 1, 3) := by decide +kernel
theorem dX10_areFoes_123 : decode cX10_areFoes 123 = .ok (.goto (-115), 3) := by decide +kernel
theorem dX10_areFoes_126 : decode cX10_areFoes 126 = .ok (.iload_n 3, 1) := by decide +kernel
theorem dX10_areFoes_127 : decode cX10_areFoes 127 = .ok (.ifCond .eq 12, 3) := by decide +kernel
theorem dX10_areFoes_130 : decode cX10_areFoes 130 = .ok (.iload 4, 2) := by decide +kernel
theorem dX10_areFoes_132 : decode cX10_areFoes 132 = .ok (.ifCond .eq 7, 3) := by decide +kernel
theorem dX10_areFoes_135 : decode cX10_areFoes 135 = .ok (.iconst 1, 1) := by decide +kernel
theorem dX10_areFoes_136 : decode cX10_areFoes 136 = .ok (.goto 4, 3) := by decide +kernel
theorem dX10_areFoes_139 : decode cX10_areFoes 139 = .ok (.iconst 0, 1) := by decide +kernel
theorem dX10_areFoes_140 : decode cX10_areFoes 140 = .ok (.ireturn, 1) := by decide +kernel
theorem dX10_holdsFoes_0 : decode cX10_holdsFoes 0 = .ok (.iconst 0, 1) := by decide +kernel
theorem dX10_holdsFoes_1 : decode cX10_holdsFoes 1 = .ok (.istore_n 2, 1) := by decide +kernel
theorem dX10_holdsFoes_2 : decode cX10_holdsFoes 2 = .ok (.iload_n 2, 1) := by decide +kernel
theorem dX10_holdsFoes_3 : decode cX10_holdsFoes 3 = .ok (.aload_n 0, 1) := by decide +kernel
theorem dX10_holdsFoes_4 : decode cX10_holdsFoes 4 = .ok (.getfield 12, 3) := by decide +kernel
theorem dX10_holdsFoes_7 : decode cX10_holdsFoes 7 = .ok (.getfield 49, 3) := by decide +kernel
theorem dX10_holdsFoes_10 : decode cX10_holdsFoes 10 = .ok (.if_icmp .ge 59, 3) := by decide +kernel
theorem dX10_holdsFoes_13 : decode cX10_holdsFoes 13 = .ok (.iload_n 2, 1) := by decide +kernel
theorem dX10_holdsFoes_14 : decode cX10_holdsFoes 14 = .ok (.iconst 1, 1) := by decide +kernel
theorem dX10_holdsFoes_15 : decode cX10_holdsFoes 15 = .ok (.iadd, 1) := by decide +kernel
theorem dX10_holdsFoes_16 : decode cX10_holdsFoes 16 = .ok (.istore_n 3, 1) := by decide +kernel
theorem dX10_holdsFoes_17 : decode cX10_holdsFoes 17 = .ok (.iload_n 3, 1) := by decide +kernel
theorem dX10_holdsFoes_18 : decode cX10_holdsFoes 18 = .ok (.aload_n 0, 1) := by decide +kernel
theorem dX10_holdsFoes_19 : decode cX10_holdsFoes 19 = .ok (.getfield 12, 3) := by decide +kernel
theorem dX10_holdsFoes_22 : decode cX10_holdsFoes 22 = .ok (.getfield 49, 3) := by decide +kernel
theorem dX10_holdsFoes_25 : decode cX10_holdsFoes 25 = .ok (.if_icmp .ge 38, 3) := by decide +kernel
theorem dX10_holdsFoes_28 : decode cX10_holdsFoes 28 = .ok (.iload_n 1, 1) := by decide +kernel
theorem dX10_holdsFoes_29 : decode cX10_holdsFoes 29 = .ok (.iload_n 2, 1) := by decide +kernel
theorem dX10_holdsFoes_30 : decode cX10_holdsFoes 30 = .ok (.invokestatic 65, 3) := by decide +kernel
theorem dX10_holdsFoes_33 : decode cX10_holdsFoes 33 = .ok (.iconst 1, 1) := by decide +kernel
theorem dX10_holdsFoes_34 : decode cX10_holdsFoes 34 = .ok (.if_icmp .ne 23, 3) := by decide +kernel
theorem dX10_holdsFoes_37 : decode cX10_holdsFoes 37 = .ok (.iload_n 1, 1) := by decide +kernel
theorem dX10_holdsFoes_38 : decode cX10_holdsFoes 38 = .ok (.iload_n 3, 1) := by decide +kernel
theorem dX10_holdsFoes_39 : decode cX10_holdsFoes 39 = .ok (.invokestatic 65, 3) := by decide +kernel
theorem dX10_holdsFoes_42 : decode cX10_holdsFoes 42 = .ok (.iconst 1, 1) := by decide +kernel
theorem dX10_holdsFoes_43 : decode cX10_holdsFoes 43 = .ok (.if_icmp .ne 14, 3) := by decide +kernel
theorem dX10_holdsFoes_46 : decode cX10_holdsFoes 46 = .ok (.aload_n 0, 1) := by decide +kernel
theorem dX10_holdsFoes_47 : decode cX10_holdsFoes 47 = .ok (.iload_n 2, 1) := by decide +kernel
theorem dX10_holdsFoes_48 : decode cX10_holdsFoes 48 = .ok (.iload_n 3, 1) := by decide +kernel
theorem dX10_holdsFoes_49 : decode cX10_holdsFoes 49 = .ok (.invokevirtual 105, 3) := by decide +kernel
theorem dX10_holdsFoes_52 : decode cX10_holdsFoes 52 = .ok (.ifCond .eq 5, 3) := by decide +kernel
theorem dX10_holdsFoes_55 : decode cX10_holdsFoes 55 = .ok (.iconst 1, 1) := by decide +kernel
theorem dX10_holdsFoes_56 : decode cX10_holdsFoes 56 = .ok (.ireturn, 1) := by decide +kernel
theorem dX10_holdsFoes_57 : decode cX10_holdsFoes 57 = .ok (.iinc 3 1, 3) := by decide +kernel
theorem dX10_holdsFoes_60 : decode cX10_holdsFoes 60 = .ok (.goto (-43), 3) := by decide +kernel
theorem dX10_holdsFoes_63 : decode cX10_holdsFoes 63 = .ok (.iinc 2 1, 3) := by decide +kernel
theorem dX10_holdsFoes_66 : decode cX10_holdsFoes 66 = .ok (.goto (-64), 3) := by decide +kernel
theorem dX10_holdsFoes_69 : decode cX10_holdsFoes 69 = .ok (.iconst 0, 1) := by decide +kernel
theorem dX10_holdsFoes_70 : decode cX10_holdsFoes 70 = .ok (.ireturn, 1) := by decide +kernel
theorem dX10_whyStay_0 : decode cX10_whyStay 0 = .ok (.iload_n 1, 1) := by decide +kernel
theorem dX10_whyStay_1 : decode cX10_whyStay 1 = .ok (.ifCond .eq 14, 3) := by decide +kernel
theorem dX10_whyStay_4 : decode cX10_whyStay 4 = .ok (.iload_n 1, 1) := by decide +kernel
theorem dX10_whyStay_5 : decode cX10_whyStay 5 = .ok (.aload_n 0, 1) := by decide +kernel
theorem dX10_whyStay_6 : decode cX10_whyStay 6 = .ok (.invokevirtual 109, 3) := by decide +kernel
theorem dX10_whyStay_9 : decode cX10_whyStay 9 = .ok (.iconst (-1), 1) := by decide +kernel
theorem dX10_whyStay_10 : decode cX10_whyStay 10 = .ok (.ixor, 1) := by decide +kernel
theorem dX10_whyStay_11 : decode cX10_whyStay 11 = .ok (.iand, 1) := by decide +kernel
theorem dX10_whyStay_12 : decode cX10_whyStay 12 = .ok (.ifCond .eq 5, 3) := by decide +kernel
theorem dX10_whyStay_15 : decode cX10_whyStay 15 = .ok (.iconst 1, 1) := by decide +kernel
theorem dX10_whyStay_16 : decode cX10_whyStay 16 = .ok (.ireturn, 1) := by decide +kernel
theorem dX10_whyStay_17 : decode cX10_whyStay 17 = .ok (.iload_n 1, 1) := by decide +kernel
theorem dX10_whyStay_18 : decode cX10_whyStay 18 = .ok (.invokestatic 73, 3) := by decide +kernel
theorem dX10_whyStay_21 : decode cX10_whyStay 21 = .ok (.aload_n 0, 1) := by decide +kernel
theorem dX10_whyStay_22 : decode cX10_whyStay 22 = .ok (.getfield 12, 3) := by decide +kernel
theorem dX10_whyStay_25 : decode cX10_whyStay 25 = .ok (.getfield 112, 3) := by decide +kernel
theorem dX10_whyStay_28 : decode cX10_whyStay 28 = .ok (.if_icmp .le 5, 3) := by decide +kernel
theorem dX10_whyStay_31 : decode cX10_whyStay 31 = .ok (.iconst 2, 1) := by decide +kernel
theorem dX10_whyStay_32 : decode cX10_whyStay 32 = .ok (.ireturn, 1) := by decide +kernel
theorem dX10_whyStay_33 : decode cX10_whyStay 33 = .ok (.aload_n 0, 1) := by decide +kernel
theorem dX10_whyStay_34 : decode cX10_whyStay 34 = .ok (.getfield 12, 3) := by decide +kernel
theorem dX10_whyStay_37 : decode cX10_whyStay 37 = .ok (.getfield 52, 3) := by decide +kernel
theorem dX10_whyStay_40 : decode cX10_whyStay 40 = .ok (.ifCond .eq 22, 3) := by decide +kernel
theorem dX10_whyStay_43 : decode cX10_whyStay 43 = .ok (.aload_n 0, 1) := by decide +kernel
theorem dX10_whyStay_44 : decode cX10_whyStay 44 = .ok (.aload_n 0, 1) := by decide +kernel
theorem dX10_whyStay_45 : decode cX10_whyStay 45 = .ok (.iload_n 1, 1) := by decide +kernel
theorem dX10_whyStay_46 : decode cX10_whyStay 46 = .ok (.aload_n 0, 1) := by decide +kernel
theorem dX10_whyStay_47 : decode cX10_whyStay 47 = .ok (.getfield 21, 3) := by decide +kernel
theorem dX10_whyStay_50 : decode cX10_whyStay 50 = .ok (.getfield 115, 3) := by decide +kernel
theorem dX10_whyStay_53 : decode cX10_whyStay 53 = .ok (.invokevirtual 118, 3) := by decide +kernel
theorem dX10_whyStay_56 : decode cX10_whyStay 56 = .ok (.invokevirtual 121, 3) := by decide +kernel
theorem dX10_whyStay_59 : decode cX10_whyStay 59 = .ok (.ifCond .ne 5, 3) := by decide +kernel
theorem dX10_whyStay_62 : decode cX10_whyStay 62 = .ok (.iconst 3, 1) := by decide +kernel
theorem dX10_whyStay_63 : decode cX10_whyStay 63 = .ok (.ireturn, 1) := by decide +kernel
theorem dX10_whyStay_64 : decode cX10_whyStay 64 = .ok (.aload_n 0, 1) := by decide +kernel
theorem dX10_whyStay_65 : decode cX10_whyStay 65 = .ok (.iload_n 1, 1) := by decide +kernel
theorem dX10_whyStay_66 : decode cX10_whyStay 66 = .ok (.invokevirtual 125, 3) := by decide +kernel
theorem dX10_whyStay_69 : decode cX10_whyStay 69 = .ok (.ifCond .eq 7, 3) := by decide +kernel
theorem dX10_whyStay_72 : decode cX10_whyStay 72 = .ok (.iconst 4, 1) := by decide +kernel
theorem dX10_whyStay_73 : decode cX10_whyStay 73 = .ok (.goto 4, 3) := by decide +kernel
theorem dX10_whyStay_76 : decode cX10_whyStay 76 = .ok (.iconst 0, 1) := by decide +kernel
theorem dX10_whyStay_77 : decode cX10_whyStay 77 = .ok (.ireturn, 1) := by decide +kernel
theorem dX10_whyNot_0 : decode cX10_whyNot 0 = .ok (.iload_n 1, 1) := by decide +kernel
theorem dX10_whyNot_1 : decode cX10_whyNot 1 = .ok (.tableswitch 100 0 3 #[31, 37, 54, 66], 31) := by decide +kernel
theorem dX10_whyNot_32 : decode cX10_whyNot 32 = .ok (.aload_n 0, 1) := by decide +kernel
theorem dX10_whyNot_33 : decode cX10_whyNot 33 = .ok (.iload_n 2, 1) := by decide +kernel
theorem dX10_whyNot_34 : decode cX10_whyNot 34 = .ok (.invokevirtual 128, 3) := by decide +kernel
theorem dX10_whyNot_37 : decode cX10_whyNot 37 = .ok (.ireturn, 1) := by decide +kernel
theorem dX10_whyNot_38 : decode cX10_whyNot 38 = .ok (.aload_n 0, 1) := by decide +kernel
theorem dX10_whyNot_39 : decode cX10_whyNot 39 = .ok (.getfield 21, 3) := by decide +kernel
theorem dX10_whyNot_42 : decode cX10_whyNot 42 = .ok (.getfield 115, 3) := by decide +kernel
theorem dX10_whyNot_45 : decode cX10_whyNot 45 = .ok (.iload_n 3, 1) := by decide +kernel
theorem dX10_whyNot_46 : decode cX10_whyNot 46 = .ok (.if_icmp .ne 7, 3) := by decide +kernel
theorem dX10_whyNot_49 : decode cX10_whyNot 49 = .ok (.iconst 1, 1) := by decide +kernel
theorem dX10_whyNot_50 : decode cX10_whyNot 50 = .ok (.goto 4, 3) := by decide +kernel
theorem dX10_whyNot_53 : decode cX10_whyNot 53 = .ok (.iconst 0, 1) := by decide +kernel
theorem dX10_whyNot_54 : decode cX10_whyNot 54 = .ok (.ireturn, 1) := by decide +kernel
theorem dX10_whyNot_55 : decode cX10_whyNot 55 = .ok (.aload_n 0, 1) := by decide +kernel
theorem dX10_whyNot_56 : decode cX10_whyNot 56 = .ok (.getfield 21, 3) := by decide +kernel
theorem dX10_whyNot_59 : decode cX10_whyNot 59 = .ok (.getfield 91, 3) := by decide +kernel
theorem dX10_whyNot_62 : decode cX10_whyNot 62 = .ok (.iload_n 2, 1) := by decide +kernel
theorem dX10_whyNot_63 : decode cX10_whyNot 63 = .ok (.invokestatic 65, 3) := by decide +kernel
theorem dX10_whyNot_66 : decode cX10_whyNot 66 = .ok (.ireturn, 1) := by decide +kernel
theorem dX10_whyNot_67 : decode cX10_whyNot 67 = .ok (.aload_n 0, 1) := by decide +kernel
theorem dX10_whyNot_68 : decode cX10_whyNot 68 = .ok (.getfield 21, 3) := by decide +kernel
theorem dX10_whyNot_71 : decode cX10_whyNot 71 = .ok (.getfield 62, 3) := by decide +kernel
theorem dX10_whyNot_74 : decode cX10_whyNot 74 = .ok (.iload_n 2, 1) := by decide +kernel
theorem dX10_whyNot_75 : decode cX10_whyNot 75 = .ok (.invokestatic 65, 3) := by decide +kernel
theorem dX10_whyNot_78 : decode cX10_whyNot 78 = .ok (.iconst 1, 1) := by decide +kernel
theorem dX10_whyNot_79 : decode cX10_whyNot 79 = .ok (.if_icmp .ne 5, 3) := by decide +kernel
theorem dX10_whyNot_82 : decode cX10_whyNot 82 = .ok (.iconst 1, 1) := by decide +kernel
theorem dX10_whyNot_83 : decode cX10_whyNot 83 = .ok (.ireturn, 1) := by decide +kernel
theorem dX10_whyNot_84 : decode cX10_whyNot 84 = .ok (.aload_n 0, 1) := by decide +kernel
theorem dX10_whyNot_85 : decode cX10_whyNot 85 = .ok (.iload_n 2, 1) := by decide +kernel
theorem dX10_whyNot_86 : decode cX10_whyNot 86 = .ok (.iload_n 3, 1) := by decide +kernel
theorem dX10_whyNot_87 : decode cX10_whyNot 87 = .ok (.invokevirtual 94, 3) := by decide +kernel
theorem dX10_whyNot_90 : decode cX10_whyNot 90 = .ok (.iload 4, 2) := by decide +kernel
theorem dX10_whyNot_92 : decode cX10_whyNot 92 = .ok (.if_icmp .ne 7, 3) := by decide +kernel
theorem dX10_whyNot_95 : decode cX10_whyNot 95 = .ok (.iconst 2, 1) := by decide +kernel
theorem dX10_whyNot_96 : decode cX10_whyNot 96 = .ok (.goto 4, 3) := by decide +kernel
theorem dX10_whyNot_99 : decode cX10_whyNot 99 = .ok (.iconst 0, 1) := by decide +kernel
theorem dX10_whyNot_100 : decode cX10_whyNot 100 = .ok (.ireturn, 1) := by decide +kernel
theorem dX10_whyNot_101 : decode cX10_whyNot 101 = .ok (.aload_n 0, 1) := by decide +kernel
theorem dX10_whyNot_102 : decode cX10_whyNot 102 = .ok (.getfield 21, 3) := by decide +kernel
theorem dX10_whyNot_105 : decode cX10_whyNot 105 = .ok (.getfield 88, 3) := by decide +kernel
theorem dX10_whyNot_108 : decode cX10_whyNot 108 = .ok (.iload_n 2, 1) := by decide +kernel
theorem dX10_whyNot_109 : decode cX10_whyNot 109 = .ok (.bipush 9, 2) := by decide +kernel
theorem dX10_whyNot_111 : decode cX10_whyNot 111 = .ok (.imul, 1) := by decide +kernel
theorem dX10_whyNot_112 : decode cX10_whyNot 112 = .ok (.iload_n 3, 1) := by decide +kernel
theorem dX10_whyNot_113 : decode cX10_whyNot 113 = .ok (.iadd, 1) := by decide +kernel
theorem dX10_whyNot_114 : decode cX10_whyNot 114 = .ok (.iaload, 1) := by decide +kernel
theorem dX10_whyNot_115 : decode cX10_whyNot 115 = .ok (.iload 4, 2) := by decide +kernel
theorem dX10_whyNot_117 : decode cX10_whyNot 117 = .ok (.if_icmp .ne 7, 3) := by decide +kernel
theorem dX10_whyNot_120 : decode cX10_whyNot 120 = .ok (.iconst 1, 1) := by decide +kernel
theorem dX10_whyNot_121 : decode cX10_whyNot 121 = .ok (.goto 4, 3) := by decide +kernel
theorem dX10_whyNot_124 : decode cX10_whyNot 124 = .ok (.iconst 0, 1) := by decide +kernel
theorem dX10_whyNot_125 : decode cX10_whyNot 125 = .ok (.ireturn, 1) := by decide +kernel
theorem dX10_perform_0 : decode cX10_perform 0 = .ok (.iload_n 1, 1) := by decide +kernel
theorem dX10_perform_1 : decode cX10_perform 1 = .ok (.tableswitch 123 0 3 #[31, 39, 50, 89], 31) := by decide +kernel
theorem dX10_perform_32 : decode cX10_perform 32 = .ok (.aload_n 0, 1) := by decide +kernel
theorem dX10_perform_33 : decode cX10_perform 33 = .ok (.iload_n 2, 1) := by decide +kernel
theorem dX10_perform_34 : decode cX10_perform 34 = .ok (.invokevirtual 131, 3) := by decide +kernel
theorem dX10_perform_37 : decode cX10_perform 37 = .ok (.goto 132, 3) := by decide +kernel
theorem dX10_perform_40 : decode cX10_perform 40 = .ok (.aload_n 0, 1) := by decide +kernel
theorem dX10_perform_41 : decode cX10_perform 41 = .ok (.getfield 21, 3) := by decide +kernel
theorem dX10_perform_44 : decode cX10_perform 44 = .ok (.iload_n 3, 1) := by decide +kernel
theorem dX10_perform_45 : decode cX10_perform 45 = .ok (.putfield 115, 3) := by decide +kernel
theorem dX10_perform_48 : decode cX10_perform 48 = .ok (.goto 121, 3) := by decide +kernel
theorem dX10_perform_51 : decode cX10_perform 51 = .ok (.aload_n 0, 1) := by decide +kernel
theorem dX10_perform_52 : decode cX10_perform 52 = .ok (.getfield 21, 3) := by decide +kernel
theorem dX10_perform_55 : decode cX10_perform 55 = .ok (.dup, 1) := by decide +kernel
theorem dX10_perform_56 : decode cX10_perform 56 = .ok (.getfield 91, 3) := by decide +kernel
theorem dX10_perform_59 : decode cX10_perform 59 = .ok (.iconst 1, 1) := by decide +kernel
theorem dX10_perform_60 : decode cX10_perform 60 = .ok (.iload_n 2, 1) := by decide +kernel
theorem dX10_perform_61 : decode cX10_perform 61 = .ok (.ishl, 1) := by decide +kernel
theorem dX10_perform_62 : decode cX10_perform 62 = .ok (.ior, 1) := by decide +kernel
theorem dX10_perform_63 : decode cX10_perform 63 = .ok (.putfield 91, 3) := by decide +kernel
theorem dX10_perform_66 : decode cX10_perform 66 = .ok (.aload_n 0, 1) := by decide +kernel
theorem dX10_perform_67 : decode cX10_perform 67 = .ok (.getfield 21, 3) := by decide +kernel
theorem dX10_perform_70 : decode cX10_perform 70 = .ok (.dup, 1) := by decide +kernel
theorem dX10_perform_71 : decode cX10_perform 71 = .ok (.getfield 135, 3) := by decide +kernel
theorem dX10_perform_74 : decode cX10_perform 74 = .ok (.aload_n 0, 1) := by decide +kernel
theorem dX10_perform_75 : decode cX10_perform 75 = .ok (.getfield 12, 3) := by decide +kernel
theorem dX10_perform_78 : decode cX10_perform 78 = .ok (.getfield 138, 3) := by decide +kernel
theorem dX10_perform_81 : decode cX10_perform 81 = .ok (.iload_n 2, 1) := by decide +kernel
theorem dX10_perform_82 : decode cX10_perform 82 = .ok (.iaload, 1) := by decide +kernel
theorem dX10_perform_83 : decode cX10_perform 83 = .ok (.iadd, 1) := by decide +kernel
theorem dX10_perform_84 : decode cX10_perform 84 = .ok (.putfield 135, 3) := by decide +kernel
theorem dX10_perform_87 : decode cX10_perform 87 = .ok (.goto 82, 3) := by decide +kernel
theorem dX10_perform_90 : decode cX10_perform 90 = .ok (.aload_n 0, 1) := by decide +kernel
theorem dX10_perform_91 : decode cX10_perform 91 = .ok (.getfield 21, 3) := by decide +kernel
theorem dX10_perform_94 : decode cX10_perform 94 = .ok (.getfield 82, 3) := by decide +kernel
theorem dX10_perform_97 : decode cX10_perform 97 = .ok (.iload_n 2, 1) := by decide +kernel
theorem dX10_perform_98 : decode cX10_perform 98 = .ok (.dup2, 1) := by decide +kernel
theorem dX10_perform_99 : decode cX10_perform 99 = .ok (.iaload, 1) := by decide +kernel
theorem dX10_perform_100 : decode cX10_perform 100 = .ok (.iconst 1, 1) := by decide +kernel
theorem dX10_perform_101 : decode cX10_perform 101 = .ok (.iload_n 3, 1) := by decide +kernel
theorem dX10_perform_102 : decode cX10_perform 102 = .ok (.ishl, 1) := by decide +kernel
theorem dX10_perform_103 : decode cX10_perform 103 = .ok (.ior, 1) := by decide +kernel
theorem dX10_perform_104 : decode cX10_perform 104 = .ok (.iastore, 1) := by decide +kernel
theorem dX10_perform_105 : decode cX10_perform 105 = .ok (.aload_n 0, 1) := by decide +kernel
theorem dX10_perform_106 : decode cX10_perform 106 = .ok (.getfield 21, 3) := by decide +kernel
theorem dX10_perform_109 : decode cX10_perform 109 = .ok (.getfield 85, 3) := by decide +kernel
theorem dX10_perform_112 : decode cX10_perform 112 = .ok (.iload_n 2, 1) := by decide +kernel
theorem dX10_perform_113 : decode cX10_perform 113 = .ok (.bipush 9, 2) := by decide +kernel
theorem dX10_perform_115 : decode cX10_perform 115 = .ok (.imul, 1) := by decide +kernel
theorem dX10_perform_116 : decode cX10_perform 116 = .ok (.iload_n 3, 1) := by decide +kernel
theorem dX10_perform_117 : decode cX10_perform 117 = .ok (.iadd, 1) := by decide +kernel
theorem dX10_perform_118 : decode cX10_perform 118 = .ok (.iload 4, 2) := by decide +kernel
theorem dX10_perform_120 : decode cX10_perform 120 = .ok (.iastore, 1) := by decide +kernel
theorem dX10_perform_121 : decode cX10_perform 121 = .ok (.goto 48, 3) := by decide +kernel
theorem dX10_perform_124 : decode cX10_perform 124 = .ok (.aload_n 0, 1) := by decide +kernel
theorem dX10_perform_125 : decode cX10_perform 125 = .ok (.getfield 21, 3) := by decide +kernel
theorem dX10_perform_128 : decode cX10_perform 128 = .ok (.getfield 88, 3) := by decide +kernel
theorem dX10_perform_131 : decode cX10_perform 131 = .ok (.iload_n 2, 1) := by decide +kernel
theorem dX10_perform_132 : decode cX10_perform 132 = .ok (.bipush 9, 2) := by decide +kernel
theorem dX10_perform_134 : decode cX10_perform 134 = .ok (.imul, 1) := by decide +kernel
theorem dX10_perform_135 : decode cX10_perform 135 = .ok (.iload_n 3, 1) := by decide +kernel
theorem dX10_perform_136 : decode cX10_perform 136 = .ok (.iadd, 1) := by decide +kernel
theorem dX10_perform_137 : decode cX10_perform 137 = .ok (.iload 4, 2) := by decide +kernel
theorem dX10_perform_139 : decode cX10_perform 139 = .ok (.iastore, 1) := by decide +kernel
theorem dX10_perform_140 : decode cX10_perform 140 = .ok (.aload_n 0, 1) := by decide +kernel
theorem dX10_perform_141 : decode cX10_perform 141 = .ok (.getfield 21, 3) := by decide +kernel
theorem dX10_perform_144 : decode cX10_perform 144 = .ok (.getfield 141, 3) := by decide +kernel
theorem dX10_perform_147 : decode cX10_perform 147 = .ok (.iload_n 2, 1) := by decide +kernel
theorem dX10_perform_148 : decode cX10_perform 148 = .ok (.iaload, 1) := by decide +kernel
theorem dX10_perform_149 : decode cX10_perform 149 = .ok (.ifCond .le 20, 3) := by decide +kernel
theorem dX10_perform_152 : decode cX10_perform 152 = .ok (.aload_n 0, 1) := by decide +kernel
theorem dX10_perform_153 : decode cX10_perform 153 = .ok (.getfield 21, 3) := by decide +kernel
theorem dX10_perform_156 : decode cX10_perform 156 = .ok (.dup, 1) := by decide +kernel
theorem dX10_perform_157 : decode cX10_perform 157 = .ok (.getfield 144, 3) := by decide +kernel
theorem dX10_perform_160 : decode cX10_perform 160 = .ok (.aload_n 0, 1) := by decide +kernel
theorem dX10_perform_161 : decode cX10_perform 161 = .ok (.iload_n 2, 1) := by decide +kernel
theorem dX10_perform_162 : decode cX10_perform 162 = .ok (.invokevirtual 147, 3) := by decide +kernel
theorem dX10_perform_165 : decode cX10_perform 165 = .ok (.ior, 1) := by decide +kernel
theorem dX10_perform_166 : decode cX10_perform 166 = .ok (.putfield 144, 3) := by decide +kernel
theorem dX10_perform_169 : decode cX10_perform 169 = .ok (.return_, 1) := by decide +kernel
theorem dX10_carry_0 : decode cX10_carry 0 = .ok (.aload_n 0, 1) := by decide +kernel
theorem dX10_carry_1 : decode cX10_carry 1 = .ok (.getfield 21, 3) := by decide +kernel
theorem dX10_carry_4 : decode cX10_carry 4 = .ok (.dup, 1) := by decide +kernel
theorem dX10_carry_5 : decode cX10_carry 5 = .ok (.getfield 62, 3) := by decide +kernel
theorem dX10_carry_8 : decode cX10_carry 8 = .ok (.iload_n 1, 1) := by decide +kernel
theorem dX10_carry_9 : decode cX10_carry 9 = .ok (.ixor, 1) := by decide +kernel
theorem dX10_carry_10 : decode cX10_carry 10 = .ok (.putfield 62, 3) := by decide +kernel
theorem dX10_carry_13 : decode cX10_carry 13 = .ok (.aload_n 0, 1) := by decide +kernel
theorem dX10_carry_14 : decode cX10_carry 14 = .ok (.getfield 21, 3) := by decide +kernel
theorem dX10_carry_17 : decode cX10_carry 17 = .ok (.iconst 1, 1) := by decide +kernel
theorem dX10_carry_18 : decode cX10_carry 18 = .ok (.aload_n 0, 1) := by decide +kernel
theorem dX10_carry_19 : decode cX10_carry 19 = .ok (.getfield 21, 3) := by decide +kernel
theorem dX10_carry_22 : decode cX10_carry 22 = .ok (.getfield 59, 3) := by decide +kernel
theorem dX10_carry_25 : decode cX10_carry 25 = .ok (.isub, 1) := by decide +kernel
theorem dX10_carry_26 : decode cX10_carry 26 = .ok (.putfield 59, 3) := by decide +kernel
theorem dX10_carry_29 : decode cX10_carry 29 = .ok (.aload_n 0, 1) := by decide +kernel
theorem dX10_carry_30 : decode cX10_carry 30 = .ok (.getfield 21, 3) := by decide +kernel
theorem dX10_carry_33 : decode cX10_carry 33 = .ok (.dup, 1) := by decide +kernel
theorem dX10_carry_34 : decode cX10_carry 34 = .ok (.getfield 91, 3) := by decide +kernel
theorem dX10_carry_37 : decode cX10_carry 37 = .ok (.iload_n 1, 1) := by decide +kernel
theorem dX10_carry_38 : decode cX10_carry 38 = .ok (.iconst (-1), 1) := by decide +kernel
theorem dX10_carry_39 : decode cX10_carry 39 = .ok (.ixor, 1) := by decide +kernel
theorem dX10_carry_40 : decode cX10_carry 40 = .ok (.iand, 1) := by decide +kernel
theorem dX10_carry_41 : decode cX10_carry 41 = .ok (.putfield 91, 3) := by decide +kernel
theorem dX10_carry_44 : decode cX10_carry 44 = .ok (.aload_n 0, 1) := by decide +kernel
theorem dX10_carry_45 : decode cX10_carry 45 = .ok (.getfield 21, 3) := by decide +kernel
theorem dX10_carry_48 : decode cX10_carry 48 = .ok (.dup, 1) := by decide +kernel
theorem dX10_carry_49 : decode cX10_carry 49 = .ok (.getfield 150, 3) := by decide +kernel
theorem dX10_carry_52 : decode cX10_carry 52 = .ok (.iconst 1, 1) := by decide +kernel
theorem dX10_carry_53 : decode cX10_carry 53 = .ok (.iadd, 1) := by decide +kernel
theorem dX10_carry_54 : decode cX10_carry 54 = .ok (.putfield 150, 3) := by decide +kernel
theorem dX10_carry_57 : decode cX10_carry 57 = .ok (.iconst 0, 1) := by decide +kernel
theorem dX10_carry_58 : decode cX10_carry 58 = .ok (.istore_n 2, 1) := by decide +kernel
theorem dX10_carry_59 : decode cX10_carry 59 = .ok (.iload_n 2, 1) := by decide +kernel
theorem dX10_carry_60 : decode cX10_carry 60 = .ok (.aload_n 0, 1) := by decide +kernel
theorem dX10_carry_61 : decode cX10_carry 61 = .ok (.getfield 12, 3) := by decide +kernel
theorem dX10_carry_64 : decode cX10_carry 64 = .ok (.getfield 49, 3) := by decide +kernel
theorem dX10_carry_67 : decode cX10_carry 67 = .ok (.if_icmp .ge 41, 3) := by decide +kernel
theorem dX10_carry_70 : decode cX10_carry 70 = .ok (.iload_n 1, 1) := by decide +kernel
theorem dX10_carry_71 : decode cX10_carry 71 = .ok (.iload_n 2, 1) := by decide +kernel
theorem dX10_carry_72 : decode cX10_carry 72 = .ok (.invokestatic 65, 3) := by decide +kernel
theorem dX10_carry_75 : decode cX10_carry 75 = .ok (.iconst 1, 1) := by decide +kernel
theorem dX10_carry_76 : decode cX10_carry 76 = .ok (.if_icmp .ne 26, 3) := by decide +kernel
theorem dX10_carry_79 : decode cX10_carry 79 = .ok (.aload_n 0, 1) := by decide +kernel
theorem dX10_carry_80 : decode cX10_carry 80 = .ok (.getfield 21, 3) := by decide +kernel
theorem dX10_carry_83 : decode cX10_carry 83 = .ok (.getfield 141, 3) := by decide +kernel
theorem dX10_carry_86 : decode cX10_carry 86 = .ok (.iload_n 2, 1) := by decide +kernel
theorem dX10_carry_87 : decode cX10_carry 87 = .ok (.dup2, 1) := by decide +kernel
theorem dX10_carry_88 : decode cX10_carry 88 = .ok (.iaload, 1) := by decide +kernel
theorem dX10_carry_89 : decode cX10_carry 89 = .ok (.iconst 1, 1) := by decide +kernel
theorem dX10_carry_90 : decode cX10_carry 90 = .ok (.iadd, 1) := by decide +kernel
theorem dX10_carry_91 : decode cX10_carry 91 = .ok (.iastore, 1) := by decide +kernel
theorem dX10_carry_92 : decode cX10_carry 92 = .ok (.aload_n 0, 1) := by decide +kernel
theorem dX10_carry_93 : decode cX10_carry 93 = .ok (.getfield 21, 3) := by decide +kernel
theorem dX10_carry_96 : decode cX10_carry 96 = .ok (.getfield 82, 3) := by decide +kernel
theorem dX10_carry_99 : decode cX10_carry 99 = .ok (.iload_n 2, 1) := by decide +kernel
theorem dX10_carry_100 : decode cX10_carry 100 = .ok (.iconst 0, 1) := by decide +kernel
theorem dX10_carry_101 : decode cX10_carry 101 = .ok (.iastore, 1) := by decide +kernel
theorem dX10_carry_102 : decode cX10_carry 102 = .ok (.iinc 2 1, 3) := by decide +kernel
theorem dX10_carry_105 : decode cX10_carry 105 = .ok (.goto (-46), 3) := by decide +kernel
theorem dX10_carry_108 : decode cX10_carry 108 = .ok (.return_, 1) := by decide +kernel
theorem dX10_drawTimes_0 : decode cX10_drawTimes 0 = .ok (.aload_n 0, 1) := by decide +kernel
theorem dX10_drawTimes_1 : decode cX10_drawTimes 1 = .ok (.getfield 21, 3) := by decide +kernel
theorem dX10_drawTimes_4 : decode cX10_drawTimes 4 = .ok (.getfield 150, 3) := by decide +kernel
theorem dX10_drawTimes_7 : decode cX10_drawTimes 7 = .ok (.istore_n 3, 1) := by decide +kernel
theorem dX10_drawTimes_8 : decode cX10_drawTimes 8 = .ok (.aload_n 0, 1) := by decide +kernel
theorem dX10_drawTimes_9 : decode cX10_drawTimes 9 = .ok (.iload_n 2, 1) := by decide +kernel
theorem dX10_drawTimes_10 : decode cX10_drawTimes 10 = .ok (.putfield 153, 3) := by decide +kernel
theorem dX10_drawTimes_13 : decode cX10_drawTimes 13 = .ok (.iconst 0, 1) := by decide +kernel
theorem dX10_drawTimes_14 : decode cX10_drawTimes 14 = .ok (.istore 4, 2) := by decide +kernel
theorem dX10_drawTimes_16 : decode cX10_drawTimes 16 = .ok (.iload 4, 2) := by decide +kernel
theorem dX10_drawTimes_18 : decode cX10_drawTimes 18 = .ok (.iload_n 1, 1) := by decide +kernel
theorem dX10_drawTimes_19 : decode cX10_drawTimes 19 = .ok (.if_icmp .ge 13, 3) := by decide +kernel
theorem dX10_drawTimes_22 : decode cX10_drawTimes 22 = .ok (.aload_n 0, 1) := by decide +kernel
theorem dX10_drawTimes_23 : decode cX10_drawTimes 23 = .ok (.invokevirtual 156, 3) := by decide +kernel
theorem dX10_drawTimes_26 : decode cX10_drawTimes 26 = .ok (.iinc 4 1, 3) := by decide +kernel
theorem dX10_drawTimes_29 : decode cX10_drawTimes 29 = .ok (.goto (-13), 3) := by decide +kernel
theorem dX10_drawTimes_32 : decode cX10_drawTimes 32 = .ok (.aload_n 0, 1) := by decide +kernel
theorem dX10_drawTimes_33 : decode cX10_drawTimes 33 = .ok (.getfield 21, 3) := by decide +kernel
theorem dX10_drawTimes_36 : decode cX10_drawTimes 36 = .ok (.getfield 150, 3) := by decide +kernel
theorem dX10_drawTimes_39 : decode cX10_drawTimes 39 = .ok (.iload_n 3, 1) := by decide +kernel
theorem dX10_drawTimes_40 : decode cX10_drawTimes 40 = .ok (.isub, 1) := by decide +kernel
theorem dX10_drawTimes_41 : decode cX10_drawTimes 41 = .ok (.ireturn, 1) := by decide +kernel
theorem dX10_drawOnce_0 : decode cX10_drawOnce 0 = .ok (.aload_n 0, 1) := by decide +kernel
theorem dX10_drawOnce_1 : decode cX10_drawOnce 1 = .ok (.invokevirtual 109, 3) := by decide +kernel
theorem dX10_drawOnce_4 : decode cX10_drawOnce 4 = .ok (.istore_n 1, 1) := by decide +kernel
theorem dX10_drawOnce_5 : decode cX10_drawOnce 5 = .ok (.iconst 0, 1) := by decide +kernel
theorem dX10_drawOnce_6 : decode cX10_drawOnce 6 = .ok (.istore_n 2, 1) := by decide +kernel
theorem dX10_drawOnce_7 : decode cX10_drawOnce 7 = .ok (.iconst 0, 1) := by decide +kernel
theorem dX10_drawOnce_8 : decode cX10_drawOnce 8 = .ok (.istore_n 3, 1) := by decide +kernel
theorem dX10_drawOnce_9 : decode cX10_drawOnce 9 = .ok (.iload_n 3, 1) := by decide +kernel
theorem dX10_drawOnce_10 : decode cX10_drawOnce 10 = .ok (.aload_n 0, 1) := by decide +kernel
theorem dX10_drawOnce_11 : decode cX10_drawOnce 11 = .ok (.getfield 12, 3) := by decide +kernel
theorem dX10_drawOnce_14 : decode cX10_drawOnce 14 = .ok (.getfield 49, 3) := by decide +kernel
theorem dX10_drawOnce_17 : decode cX10_drawOnce 17 = .ok (.if_icmp .ge 32, 3) := by decide +kernel
theorem dX10_drawOnce_20 : decode cX10_drawOnce 20 = .ok (.iload_n 1, 1) := by decide +kernel
theorem dX10_drawOnce_21 : decode cX10_drawOnce 21 = .ok (.iload_n 3, 1) := by decide +kernel
theorem dX10_drawOnce_22 : decode cX10_drawOnce 22 = .ok (.invokestatic 65, 3) := by decide +kernel
theorem dX10_drawOnce_25 : decode cX10_drawOnce 25 = .ok (.iconst 1, 1) := by decide +kernel
theorem dX10_drawOnce_26 : decode cX10_drawOnce 26 = .ok (.if_icmp .ne 17, 3) := by decide +kernel
theorem dX10_drawOnce_29 : decode cX10_drawOnce 29 = .ok (.aload_n 0, 1) := by decide +kernel
theorem dX10_drawOnce_30 : decode cX10_drawOnce 30 = .ok (.iconst 2, 1) := by decide +kernel
theorem dX10_drawOnce_31 : decode cX10_drawOnce 31 = .ok (.invokevirtual 159, 3) := by decide +kernel
theorem dX10_drawOnce_34 : decode cX10_drawOnce 34 = .ok (.ifCond .ne 9, 3) := by decide +kernel
theorem dX10_drawOnce_37 : decode cX10_drawOnce 37 = .ok (.iload_n 2, 1) := by decide +kernel
theorem dX10_drawOnce_38 : decode cX10_drawOnce 38 = .ok (.iconst 1, 1) := by decide +kernel
theorem dX10_drawOnce_39 : decode cX10_drawOnce 39 = .ok (.iload_n 3, 1) := by decide +kernel
theorem dX10_drawOnce_40 : decode cX10_drawOnce 40 = .ok (.ishl, 1) := by decide +kernel
theorem dX10_drawOnce_41 : decode cX10_drawOnce 41 = .ok (.ior, 1) := by decide +kernel
theorem dX10_drawOnce_42 : decode cX10_drawOnce 42 = .ok (.istore_n 2, 1) := by decide +kernel
theorem dX10_drawOnce_43 : decode cX10_drawOnce 43 = .ok (.iinc 3 1, 3) := by decide +kernel
theorem dX10_drawOnce_46 : decode cX10_drawOnce 46 = .ok (.goto (-37), 3) := by decide +kernel
theorem dX10_drawOnce_49 : decode cX10_drawOnce 49 = .ok (.aload_n 0, 1) := by decide +kernel
theorem dX10_drawOnce_50 : decode cX10_drawOnce 50 = .ok (.iload_n 2, 1) := by decide +kernel
theorem dX10_drawOnce_51 : decode cX10_drawOnce 51 = .ok (.invokevirtual 128, 3) := by decide +kernel
theorem dX10_drawOnce_54 : decode cX10_drawOnce 54 = .ok (.ifCond .ne 9, 3) := by decide +kernel
theorem dX10_drawOnce_57 : decode cX10_drawOnce 57 = .ok (.aload_n 0, 1) := by decide +kernel
theorem dX10_drawOnce_58 : decode cX10_drawOnce 58 = .ok (.iload_n 2, 1) := by decide +kernel
theorem dX10_drawOnce_59 : decode cX10_drawOnce 59 = .ok (.invokevirtual 131, 3) := by decide +kernel
theorem dX10_drawOnce_62 : decode cX10_drawOnce 62 = .ok (.return_, 1) := by decide +kernel
theorem dX10_drawOnce_63 : decode cX10_drawOnce 63 = .ok (.aload_n 0, 1) := by decide +kernel
theorem dX10_drawOnce_64 : decode cX10_drawOnce 64 = .ok (.aload_n 0, 1) := by decide +kernel
theorem dX10_drawOnce_65 : decode cX10_drawOnce 65 = .ok (.getfield 12, 3) := by decide +kernel
theorem dX10_drawOnce_68 : decode cX10_drawOnce 68 = .ok (.getfield 49, 3) := by decide +kernel
theorem dX10_drawOnce_71 : decode cX10_drawOnce 71 = .ok (.invokevirtual 159, 3) := by decide +kernel
theorem dX10_drawOnce_74 : decode cX10_drawOnce 74 = .ok (.istore_n 3, 1) := by decide +kernel
theorem dX10_drawOnce_75 : decode cX10_drawOnce 75 = .ok (.aload_n 0, 1) := by decide +kernel
theorem dX10_drawOnce_76 : decode cX10_drawOnce 76 = .ok (.getfield 21, 3) := by decide +kernel
theorem dX10_drawOnce_79 : decode cX10_drawOnce 79 = .ok (.getfield 91, 3) := by decide +kernel
theorem dX10_drawOnce_82 : decode cX10_drawOnce 82 = .ok (.iload_n 3, 1) := by decide +kernel
theorem dX10_drawOnce_83 : decode cX10_drawOnce 83 = .ok (.invokestatic 65, 3) := by decide +kernel
theorem dX10_drawOnce_86 : decode cX10_drawOnce 86 = .ok (.ifCond .ne 11, 3) := by decide +kernel
theorem dX10_drawOnce_89 : decode cX10_drawOnce 89 = .ok (.aload_n 0, 1) := by decide +kernel
theorem dX10_drawOnce_90 : decode cX10_drawOnce 90 = .ok (.iconst 2, 1) := by decide +kernel
theorem dX10_drawOnce_91 : decode cX10_drawOnce 91 = .ok (.iload_n 3, 1) := by decide +kernel
theorem dX10_drawOnce_92 : decode cX10_drawOnce 92 = .ok (.iconst (-1), 1) := by decide +kernel
theorem dX10_drawOnce_93 : decode cX10_drawOnce 93 = .ok (.iconst 0, 1) := by decide +kernel
theorem dX10_drawOnce_94 : decode cX10_drawOnce 94 = .ok (.invokevirtual 162, 3) := by decide +kernel
theorem dX10_drawOnce_97 : decode cX10_drawOnce 97 = .ok (.return_, 1) := by decide +kernel
theorem dX10_draw_0 : decode cX10_draw 0 = .ok (.aload_n 0, 1) := by decide +kernel
theorem dX10_draw_1 : decode cX10_draw 1 = .ok (.aload_n 0, 1) := by decide +kernel
theorem dX10_draw_2 : decode cX10_draw 2 = .ok (.getfield 153, 3) := by decide +kernel
theorem dX10_draw_5 : decode cX10_draw 5 = .ok (.ldc 166, 2) := by decide +kernel
theorem dX10_draw_7 : decode cX10_draw 7 = .ok (.imul, 1) := by decide +kernel
theorem dX10_draw_8 : decode cX10_draw 8 = .ok (.sipush 12345, 3) := by decide +kernel
theorem dX10_draw_11 : decode cX10_draw 11 = .ok (.iadd, 1) := by decide +kernel
theorem dX10_draw_12 : decode cX10_draw 12 = .ok (.putfield 153, 3) := by decide +kernel
theorem dX10_draw_15 : decode cX10_draw 15 = .ok (.iload_n 1, 1) := by decide +kernel
theorem dX10_draw_16 : decode cX10_draw 16 = .ok (.ifCond .le 15, 3) := by decide +kernel
theorem dX10_draw_19 : decode cX10_draw 19 = .ok (.aload_n 0, 1) := by decide +kernel
theorem dX10_draw_20 : decode cX10_draw 20 = .ok (.getfield 153, 3) := by decide +kernel
theorem dX10_draw_23 : decode cX10_draw 23 = .ok (.bipush 8, 2) := by decide +kernel
theorem dX10_draw_25 : decode cX10_draw 25 = .ok (.iushr, 1) := by decide +kernel
theorem dX10_draw_26 : decode cX10_draw 26 = .ok (.iload_n 1, 1) := by decide +kernel
theorem dX10_draw_27 : decode cX10_draw 27 = .ok (.irem, 1) := by decide +kernel
theorem dX10_draw_28 : decode cX10_draw 28 = .ok (.goto 4, 3) := by decide +kernel
theorem dX10_draw_31 : decode cX10_draw 31 = .ok (.iconst 0, 1) := by decide +kernel
theorem dX10_draw_32 : decode cX10_draw 32 = .ok (.ireturn, 1) := by decide +kernel
theorem dX11_init_0 : decode cX11_init 0 = .ok (.aload_n 0, 1) := by decide +kernel
theorem dX11_init_1 : decode cX11_init 1 = .ok (.invokespecial 3, 3) := by decide +kernel
theorem dX11_init_4 : decode cX11_init 4 = .ok (.aload_n 0, 1) := by decide +kernel
theorem dX11_init_5 : decode cX11_init 5 = .ok (.new 9, 3) := by decide +kernel
theorem dX11_init_8 : decode cX11_init 8 = .ok (.dup, 1) := by decide +kernel
theorem dX11_init_9 : decode cX11_init 9 = .ok (.invokespecial 11, 3) := by decide +kernel
theorem dX11_init_12 : decode cX11_init 12 = .ok (.putfield 12, 3) := by decide +kernel
theorem dX11_init_15 : decode cX11_init 15 = .ok (.aload_n 0, 1) := by decide +kernel
theorem dX11_init_16 : decode cX11_init 16 = .ok (.new 16, 3) := by decide +kernel
theorem dX11_init_19 : decode cX11_init 19 = .ok (.dup, 1) := by decide +kernel
theorem dX11_init_20 : decode cX11_init 20 = .ok (.aload_n 0, 1) := by decide +kernel
theorem dX11_init_21 : decode cX11_init 21 = .ok (.getfield 12, 3) := by decide +kernel
theorem dX11_init_24 : decode cX11_init 24 = .ok (.invokespecial 18, 3) := by decide +kernel
theorem dX11_init_27 : decode cX11_init 27 = .ok (.putfield 21, 3) := by decide +kernel
theorem dX11_init_30 : decode cX11_init 30 = .ok (.aload_n 0, 1) := by decide +kernel
theorem dX11_init_31 : decode cX11_init 31 = .ok (.new 25, 3) := by decide +kernel
theorem dX11_init_34 : decode cX11_init 34 = .ok (.dup, 1) := by decide +kernel
theorem dX11_init_35 : decode cX11_init 35 = .ok (.aload_n 0, 1) := by decide +kernel
theorem dX11_init_36 : decode cX11_init 36 = .ok (.getfield 12, 3) := by decide +kernel
theorem dX11_init_39 : decode cX11_init 39 = .ok (.invokespecial 27, 3) := by decide +kernel
theorem dX11_init_42 : decode cX11_init 42 = .ok (.putfield 28, 3) := by decide +kernel
theorem dX11_init_45 : decode cX11_init 45 = .ok (.aload_n 0, 1) := by decide +kernel
theorem dX11_init_46 : decode cX11_init 46 = .ok (.new 32, 3) := by decide +kernel
theorem dX11_init_49 : decode cX11_init 49 = .ok (.dup, 1) := by decide +kernel
theorem dX11_init_50 : decode cX11_init 50 = .ok (.aload_n 0, 1) := by decide +kernel
theorem dX11_init_51 : decode cX11_init 51 = .ok (.getfield 12, 3) := by decide +kernel
theorem dX11_init_54 : decode cX11_init 54 = .ok (.invokespecial 34, 3) := by decide +kernel
theorem dX11_init_57 : decode cX11_init 57 = .ok (.putfield 35, 3) := by decide +kernel
theorem dX11_init_60 : decode cX11_init 60 = .ok (.aload_n 0, 1) := by decide +kernel
theorem dX11_init_61 : decode cX11_init 61 = .ok (.new 39, 3) := by decide +kernel
theorem dX11_init_64 : decode cX11_init 64 = .ok (.dup, 1) := by decide +kernel
theorem dX11_init_65 : decode cX11_init 65 = .ok (.invokespecial 41, 3) := by decide +kernel
theorem dX11_init_68 : decode cX11_init 68 = .ok (.putfield 42, 3) := by decide +kernel
theorem dX11_init_71 : decode cX11_init 71 = .ok (.aload_n 0, 1) := by decide +kernel
theorem dX11_init_72 : decode cX11_init 72 = .ok (.new 46, 3) := by decide +kernel
theorem dX11_init_75 : decode cX11_init 75 = .ok (.dup, 1) := by decide +kernel
theorem dX11_init_76 : decode cX11_init 76 = .ok (.invokespecial 48, 3) := by decide +kernel
theorem dX11_init_79 : decode cX11_init 79 = .ok (.putfield 49, 3) := by decide +kernel
theorem dX11_init_82 : decode cX11_init 82 = .ok (.aload_n 0, 1) := by decide +kernel
theorem dX11_init_83 : decode cX11_init 83 = .ok (.new 53, 3) := by decide +kernel
theorem dX11_init_86 : decode cX11_init 86 = .ok (.dup, 1) := by decide +kernel
theorem dX11_init_87 : decode cX11_init 87 = .ok (.invokespecial 55, 3) := by decide +kernel
theorem dX11_init_90 : decode cX11_init 90 = .ok (.putfield 56, 3) := by decide +kernel
theorem dX11_init_93 : decode cX11_init 93 = .ok (.aload_n 0, 1) := by decide +kernel
theorem dX11_init_94 : decode cX11_init 94 = .ok (.bipush 8, 2) := by decide +kernel
theorem dX11_init_96 : decode cX11_init 96 = .ok (.anewarray 46, 3) := by decide +kernel
theorem dX11_init_99 : decode cX11_init 99 = .ok (.putfield 60, 3) := by decide +kernel
theorem dX11_init_102 : decode cX11_init 102 = .ok (.iconst 0, 1) := by decide +kernel
theorem dX11_init_103 : decode cX11_init 103 = .ok (.istore_n 1, 1) := by decide +kernel
theorem dX11_init_104 : decode cX11_init 104 = .ok (.iload_n 1, 1) := by decide +kernel
theorem dX11_init_105 : decode cX11_init 105 = .ok (.bipush 8, 2) := by decide +kernel
theorem dX11_init_107 : decode cX11_init 107 = .ok (.if_icmp .ge 22, 3) := by decide +kernel
theorem dX11_init_110 : decode cX11_init 110 = .ok (.aload_n 0, 1) := by decide +kernel
theorem dX11_init_111 : decode cX11_init 111 = .ok (.getfield 60, 3) := by decide +kernel
theorem dX11_init_114 : decode cX11_init 114 = .ok (.iload_n 1, 1) := by decide +kernel
theorem dX11_init_115 : decode cX11_init 115 = .ok (.new 46, 3) := by decide +kernel
theorem dX11_init_118 : decode cX11_init 118 = .ok (.dup, 1) := by decide +kernel
theorem dX11_init_119 : decode cX11_init 119 = .ok (.invokespecial 48, 3) := by decide +kernel
theorem dX11_init_122 : decode cX11_init 122 = .ok (.aastore, 1) := by decide +kernel
theorem dX11_init_123 : decode cX11_init 123 = .ok (.iinc 1 1, 3) := by decide +kernel
theorem dX11_init_126 : decode cX11_init 126 = .ok (.goto (-22), 3) := by decide +kernel
theorem dX11_init_129 : decode cX11_init 129 = .ok (.aload_n 0, 1) := by decide +kernel
theorem dX11_init_130 : decode cX11_init 130 = .ok (.iconst 2, 1) := by decide +kernel
theorem dX11_init_131 : decode cX11_init 131 = .ok (.anewarray 39, 3) := by decide +kernel
theorem dX11_init_134 : decode cX11_init 134 = .ok (.putfield 64, 3) := by decide +kernel
theorem dX11_init_137 : decode cX11_init 137 = .ok (.iconst 0, 1) := by decide +kernel
theorem dX11_init_138 : decode cX11_init 138 = .ok (.istore_n 1, 1) := by decide +kernel
theorem dX11_init_139 : decode cX11_init 139 = .ok (.iload_n 1, 1) := by decide +kernel
theorem dX11_init_140 : decode cX11_init 140 = .ok (.iconst 2, 1) := by decide +kernel
theorem dX11_init_141 : decode cX11_init 141 = .ok (.if_icmp .ge 22, 3) := by decide +kernel
theorem dX11_init_144 : decode cX11_init 144 = .ok (.aload_n 0, 1) := by decide +kernel
theorem dX11_init_145 : decode cX11_init 145 = .ok (.getfield 64, 3) := by decide +kernel
theorem dX11_init_148 : decode cX11_init 148 = .ok (.iload_n 1, 1) := by decide +kernel
theorem dX11_init_149 : decode cX11_init 149 = .ok (.new 39, 3) := by decide +kernel
theorem dX11_init_152 : decode cX11_init 152 = .ok (.dup, 1) := by decide +kernel
theorem dX11_init_153 : decode cX11_init 153 = .ok (.invokespecial 41, 3) := by decide +kernel
theorem dX11_init_156 : decode cX11_init 156 = .ok (.aastore, 1) := by decide +kernel
theorem dX11_init_157 : decode cX11_init 157 = .ok (.iinc 1 1, 3) := by decide +kernel
theorem dX11_init_160 : decode cX11_init 160 = .ok (.goto (-21), 3) := by decide +kernel
theorem dX11_init_163 : decode cX11_init 163 = .ok (.aload_n 0, 1) := by decide +kernel
theorem dX11_init_164 : decode cX11_init 164 = .ok (.bipush (-101), 2) := by decide +kernel
theorem dX11_init_166 : decode cX11_init 166 = .ok (.putfield 68, 3) := by decide +kernel
theorem dX11_init_169 : decode cX11_init 169 = .ok (.aload_n 0, 1) := by decide +kernel
theorem dX11_init_170 : decode cX11_init 170 = .ok (.bipush (-101), 2) := by decide +kernel
theorem dX11_init_172 : decode cX11_init 172 = .ok (.putfield 72, 3) := by decide +kernel
theorem dX11_init_175 : decode cX11_init 175 = .ok (.aload_n 0, 1) := by decide +kernel
theorem dX11_init_176 : decode cX11_init 176 = .ok (.bipush 10, 2) := by decide +kernel
theorem dX11_init_178 : decode cX11_init 178 = .ok (.newarray .int, 2) := by decide +kernel
theorem dX11_init_180 : decode cX11_init 180 = .ok (.putfield 75, 3) := by decide +kernel
theorem dX11_init_183 : decode cX11_init 183 = .ok (.aload_n 0, 1) := by decide +kernel
theorem dX11_init_184 : decode cX11_init 184 = .ok (.getfield 75, 3) := by decide +kernel
theorem dX11_init_187 : decode cX11_init 187 = .ok (.iconst (-1), 1) := by decide +kernel
theorem dX11_init_188 : decode cX11_init 188 = .ok (.invokestatic 79, 3) := by decide +kernel
theorem dX11_init_191 : decode cX11_init 191 = .ok (.aload_n 0, 1) := by decide +kernel
theorem dX11_init_192 : decode cX11_init 192 = .ok (.iconst 4, 1) := by decide +kernel
theorem dX11_init_193 : decode cX11_init 193 = .ok (.newarray .int, 2) := by decide +kernel
theorem dX11_init_195 : decode cX11_init 195 = .ok (.putfield 85, 3) := by decide +kernel
theorem dX11_init_198 : decode cX11_init 198 = .ok (.aload_n 0, 1) := by decide +kernel
theorem dX11_init_199 : decode cX11_init 199 = .ok (.getfield 85, 3) := by decide +kernel
theorem dX11_init_202 : decode cX11_init 202 = .ok (.iconst (-1), 1) := by decide +kernel
theorem dX11_init_203 : decode cX11_init 203 = .ok (.invokestatic 79, 3) := by decide +kernel
theorem dX11_init_206 : decode cX11_init 206 = .ok (.return_, 1) := by decide +kernel
theorem dX11_feed_0 : decode cX11_feed 0 = .ok (.aload_n 0, 1) := by decide +kernel
theorem dX11_feed_1 : decode cX11_feed 1 = .ok (.getfield 12, 3) := by decide +kernel
theorem dX11_feed_4 : decode cX11_feed 4 = .ok (.getfield 88, 3) := by decide +kernel
theorem dX11_feed_7 : decode cX11_feed 7 = .ok (.bipush 20, 2) := by decide +kernel
theorem dX11_feed_9 : decode cX11_feed 9 = .ok (.iadd, 1) := by decide +kernel
theorem dX11_feed_10 : decode cX11_feed 10 = .ok (.sipush 940, 3) := by decide +kernel
theorem dX11_feed_13 : decode cX11_feed 13 = .ok (.if_icmp .le 5, 3) := by decide +kernel
theorem dX11_feed_16 : decode cX11_feed 16 = .ok (.iconst (-1), 1) := by decide +kernel
theorem dX11_feed_17 : decode cX11_feed 17 = .ok (.ireturn, 1) := by decide +kernel
theorem dX11_feed_18 : decode cX11_feed 18 = .ok (.aload_n 0, 1) := by decide +kernel
theorem dX11_feed_19 : decode cX11_feed 19 = .ok (.getfield 12, 3) := by decide +kernel
theorem dX11_feed_22 : decode cX11_feed 22 = .ok (.iload_n 1, 1) := by decide +kernel
theorem dX11_feed_23 : decode cX11_feed 23 = .ok (.invokevirtual 91, 3) := by decide +kernel
theorem dX11_feed_26 : decode cX11_feed 26 = .ok (.aload_n 0, 1) := by decide +kernel
theorem dX11_feed_27 : decode cX11_feed 27 = .ok (.getfield 12, 3) := by decide +kernel
theorem dX11_feed_30 : decode cX11_feed 30 = .ok (.iload_n 2, 1) := by decide +kernel
theorem dX11_feed_31 : decode cX11_feed 31 = .ok (.invokevirtual 91, 3) := by decide +kernel
theorem dX11_feed_34 : decode cX11_feed 34 = .ok (.aload_n 0, 1) := by decide +kernel
theorem dX11_feed_35 : decode cX11_feed 35 = .ok (.getfield 12, 3) := by decide +kernel
theorem dX11_feed_38 : decode cX11_feed 38 = .ok (.iload_n 3, 1) := by decide +kernel
theorem dX11_feed_39 : decode cX11_feed 39 = .ok (.invokevirtual 91, 3) := by decide +kernel
theorem dX11_feed_42 : decode cX11_feed 42 = .ok (.aload_n 0, 1) := by decide +kernel
theorem dX11_feed_43 : decode cX11_feed 43 = .ok (.getfield 12, 3) := by decide +kernel
theorem dX11_feed_46 : decode cX11_feed 46 = .ok (.iload 4, 2) := by decide +kernel
theorem dX11_feed_48 : decode cX11_feed 48 = .ok (.invokevirtual 91, 3) := by decide +kernel
theorem dX11_feed_51 : decode cX11_feed 51 = .ok (.aload_n 0, 1) := by decide +kernel
theorem dX11_feed_52 : decode cX11_feed 52 = .ok (.getfield 12, 3) := by decide +kernel
theorem dX11_feed_55 : decode cX11_feed 55 = .ok (.iload 5, 2) := by decide +kernel
theorem dX11_feed_57 : decode cX11_feed 57 = .ok (.invokevirtual 91, 3) := by decide +kernel
theorem dX11_feed_60 : decode cX11_feed 60 = .ok (.aload_n 0, 1) := by decide +kernel
theorem dX11_feed_61 : decode cX11_feed 61 = .ok (.getfield 12, 3) := by decide +kernel
theorem dX11_feed_64 : decode cX11_feed 64 = .ok (.getfield 88, 3) := by decide +kernel
theorem dX11_feed_67 : decode cX11_feed 67 = .ok (.ireturn, 1) := by decide +kernel
theorem dX11_end_0 : decode cX11_end 0 = .ok (.iload_n 1, 1) := by decide +kernel
theorem dX11_end_1 : decode cX11_end 1 = .ok (.ifCond .lt 14, 3) := by decide +kernel
theorem dX11_end_4 : decode cX11_end 4 = .ok (.iload_n 1, 1) := by decide +kernel
theorem dX11_end_5 : decode cX11_end 5 = .ok (.aload_n 0, 1) := by decide +kernel
theorem dX11_end_6 : decode cX11_end 6 = .ok (.getfield 12, 3) := by decide +kernel
theorem dX11_end_9 : decode cX11_end 9 = .ok (.getfield 88, 3) := by decide +kernel
theorem dX11_end_12 : decode cX11_end 12 = .ok (.if_icmp .le 5, 3) := by decide +kernel
theorem dX11_end_15 : decode cX11_end 15 = .ok (.iconst 0, 1) := by decide +kernel
theorem dX11_end_16 : decode cX11_end 16 = .ok (.ireturn, 1) := by decide +kernel
theorem dX11_end_17 : decode cX11_end 17 = .ok (.aload_n 0, 1) := by decide +kernel
theorem dX11_end_18 : decode cX11_end 18 = .ok (.getfield 12, 3) := by decide +kernel
theorem dX11_end_21 : decode cX11_end 21 = .ok (.iload_n 1, 1) := by decide +kernel
theorem dX11_end_22 : decode cX11_end 22 = .ok (.putfield 88, 3) := by decide +kernel
theorem dX11_end_25 : decode cX11_end 25 = .ok (.iconst 1, 1) := by decide +kernel
theorem dX11_end_26 : decode cX11_end 26 = .ok (.ireturn, 1) := by decide +kernel
theorem dX11_ferry_0 : decode cX11_ferry 0 = .ok (.aload_n 0, 1) := by decide +kernel
theorem dX11_ferry_1 : decode cX11_ferry 1 = .ok (.getfield 21, 3) := by decide +kernel
theorem dX11_ferry_4 : decode cX11_ferry 4 = .ok (.invokevirtual 95, 3) := by decide +kernel
theorem dX11_ferry_7 : decode cX11_ferry 7 = .ok (.istore_n 1, 1) := by decide +kernel
theorem dX11_ferry_8 : decode cX11_ferry 8 = .ok (.aload_n 0, 1) := by decide +kernel
theorem dX11_ferry_9 : decode cX11_ferry 9 = .ok (.aload_n 0, 1) := by decide +kernel
theorem dX11_ferry_10 : decode cX11_ferry 10 = .ok (.getfield 21, 3) := by decide +kernel
theorem dX11_ferry_13 : decode cX11_ferry 13 = .ok (.getfield 99, 3) := by decide +kernel
theorem dX11_ferry_16 : decode cX11_ferry 16 = .ok (.putfield 102, 3) := by decide +kernel
theorem dX11_ferry_19 : decode cX11_ferry 19 = .ok (.aload_n 0, 1) := by decide +kernel
theorem dX11_ferry_20 : decode cX11_ferry 20 = .ok (.getfield 12, 3) := by decide +kernel
theorem dX11_ferry_23 : decode cX11_ferry 23 = .ok (.iconst 0, 1) := by decide +kernel
theorem dX11_ferry_24 : decode cX11_ferry 24 = .ok (.putfield 88, 3) := by decide +kernel
theorem dX11_ferry_27 : decode cX11_ferry 27 = .ok (.iload_n 1, 1) := by decide +kernel
theorem dX11_ferry_28 : decode cX11_ferry 28 = .ok (.ifCond .ne 13, 3) := by decide +kernel
theorem dX11_ferry_31 : decode cX11_ferry 31 = .ok (.iconst (-1), 1) := by decide +kernel
theorem dX11_ferry_32 : decode cX11_ferry 32 = .ok (.aload_n 0, 1) := by decide +kernel
theorem dX11_ferry_33 : decode cX11_ferry 33 = .ok (.getfield 12, 3) := by decide +kernel
theorem dX11_ferry_36 : decode cX11_ferry 36 = .ok (.getfield 105, 3) := by decide +kernel
theorem dX11_ferry_39 : decode cX11_ferry 39 = .ok (.isub, 1) := by decide +kernel
theorem dX11_ferry_40 : decode cX11_ferry 40 = .ok (.ireturn, 1) := by decide +kernel
theorem dX11_ferry_41 : decode cX11_ferry 41 = .ok (.aload_n 0, 1) := by decide +kernel
theorem dX11_ferry_42 : decode cX11_ferry 42 = .ok (.getfield 42, 3) := by decide +kernel
theorem dX11_ferry_45 : decode cX11_ferry 45 = .ok (.aload_n 0, 1) := by decide +kernel
theorem dX11_ferry_46 : decode cX11_ferry 46 = .ok (.getfield 21, 3) := by decide +kernel
theorem dX11_ferry_49 : decode cX11_ferry 49 = .ok (.getfield 108, 3) := by decide +kernel
theorem dX11_ferry_52 : decode cX11_ferry 52 = .ok (.invokevirtual 112, 3) := by decide +kernel
theorem dX11_ferry_55 : decode cX11_ferry 55 = .ok (.aload_n 0, 1) := by decide +kernel
theorem dX11_ferry_56 : decode cX11_ferry 56 = .ok (.iconst 0, 1) := by decide +kernel
theorem dX11_ferry_57 : decode cX11_ferry 57 = .ok (.putfield 116, 3) := by decide +kernel
theorem dX11_ferry_60 : decode cX11_ferry 60 = .ok (.aload_n 0, 1) := by decide +kernel
theorem dX11_ferry_61 : decode cX11_ferry 61 = .ok (.getfield 21, 3) := by decide +kernel
theorem dX11_ferry_64 : decode cX11_ferry 64 = .ok (.getfield 119, 3) := by decide +kernel
theorem dX11_ferry_67 : decode cX11_ferry 67 = .ok (.ireturn, 1) := by decide +kernel
theorem dX11_fault_0 : decode cX11_fault 0 = .ok (.aload_n 0, 1) := by decide +kernel
theorem dX11_fault_1 : decode cX11_fault 1 = .ok (.getfield 102, 3) := by decide +kernel
theorem dX11_fault_4 : decode cX11_fault 4 = .ok (.ireturn, 1) := by decide +kernel
theorem dX11_man_0 : decode cX11_man 0 = .ok (.aload_n 0, 1) := by decide +kernel
theorem dX11_man_1 : decode cX11_man 1 = .ok (.getfield 42, 3) := by decide +kernel
theorem dX11_man_4 : decode cX11_man 4 = .ok (.iload_n 1, 1) := by decide +kernel
theorem dX11_man_5 : decode cX11_man 5 = .ok (.invokevirtual 122, 3) := by decide +kernel
theorem dX11_man_8 : decode cX11_man 8 = .ok (.ifCond .ne 11, 3) := by decide +kernel
theorem dX11_man_11 : decode cX11_man 11 = .ok (.new 126, 3) := by decide +kernel
theorem dX11_man_14 : decode cX11_man 14 = .ok (.dup, 1) := by decide +kernel
theorem dX11_man_15 : decode cX11_man 15 = .ok (.invokespecial 128, 3) := by decide +kernel
theorem dX11_man_18 : decode cX11_man 18 = .ok (.athrow, 1) := by decide +kernel
theorem dX11_man_19 : decode cX11_man 19 = .ok (.iload_n 2, 1) := by decide +kernel
theorem dX11_man_20 : decode cX11_man 20 = .ok (.tableswitch 158 0 7 #[48, 63, 76, 91, 106, 119, 132, 145], 48) := by decide +kernel
theorem dX11_man_68 : decode cX11_man 68 = .ok (.aload_n 0, 1) := by decide +kernel
theorem dX11_man_69 : decode cX11_man 69 = .ok (.getfield 42, 3) := by decide +kernel
theorem dX11_man_72 : decode cX11_man 72 = .ok (.getfield 129, 3) := by decide +kernel
theorem dX11_man_75 : decode cX11_man 75 = .ok (.getfield 132, 3) := by decide +kernel
theorem dX11_man_78 : decode cX11_man 78 = .ok (.iload_n 1, 1) := by decide +kernel
theorem dX11_man_79 : decode cX11_man 79 = .ok (.invokestatic 135, 3) := by decide +kernel
theorem dX11_man_82 : decode cX11_man 82 = .ok (.ireturn, 1) := by decide +kernel
theorem dX11_man_83 : decode cX11_man 83 = .ok (.aload_n 0, 1) := by decide +kernel
theorem dX11_man_84 : decode cX11_man 84 = .ok (.getfield 42, 3) := by decide +kernel
theorem dX11_man_87 : decode cX11_man 87 = .ok (.getfield 139, 3) := by decide +kernel
theorem dX11_man_90 : decode cX11_man 90 = .ok (.getfield 140, 3) := by decide +kernel
theorem dX11_man_93 : decode cX11_man 93 = .ok (.iload_n 1, 1) := by decide +kernel
theorem dX11_man_94 : decode cX11_man 94 = .ok (.iaload, 1) := by decide +kernel
theorem dX11_man_95 : decode cX11_man 95 = .ok (.ireturn, 1) := by decide +kernel
theorem dX11_man_96 : decode cX11_man 96 = .ok (.aload_n 0, 1) := by decide +kernel
theorem dX11_man_97 : decode cX11_man 97 = .ok (.getfield 42, 3) := by decide +kernel
theorem dX11_man_100 : decode cX11_man 100 = .ok (.getfield 129, 3) := by decide +kernel
theorem dX11_man_103 : decode cX11_man 103 = .ok (.getfield 145, 3) := by decide +kernel
theorem dX11_man_106 : decode cX11_man 106 = .ok (.iload_n 1, 1) := by decide +kernel
theorem dX11_man_107 : decode cX11_man 107 = .ok (.invokestatic 135, 3) := by decide +kernel
theorem dX11_man_110 : decode cX11_man 110 = .ok (.ireturn, 1) := by decide +kernel
theorem dX11_man_111 : decode cX11_man 111 = .ok (.aload_n 0, 1) := by decide +kernel
theorem dX11_man_112 : decode cX11_man 112 = .ok (.getfield 42, 3) := by decide +kernel
theorem dX11_man_115 : decode cX11_man 115 = .ok (.getfield 129, 3) := by decide +kernel
theorem dX11_man_118 : decode cX11_man 118 = .ok (.getfield 148, 3) := by decide +kernel
theorem dX11_man_121 : decode cX11_man 121 = .ok (.iload_n 1, 1) := by decide +kernel
theorem dX11_man_122 : decode cX11_man 122 = .ok (.invokestatic 135, 3) := by decide +kernel
theorem dX11_man_125 : decode cX11_man 125 = .ok (.ireturn, 1) := by decide +kernel
theorem dX11_man_126 : decode cX11_man 126 = .ok (.aload_n 0, 1) := by decide +kernel
theorem dX11_man_127 : decode cX11_man 127 = .ok (.getfield 42, 3) := by decide +kernel
theorem dX11_man_130 : decode cX11_man 130 = .ok (.getfield 139, 3) := by decide +kernel
theorem dX11_man_133 : decode cX11_man 133 = .ok (.getfield 151, 3) := by decide +kernel
theorem dX11_man_136 : decode cX11_man 136 = .ok (.iload_n 1, 1) := by decide +kernel
theorem dX11_man_137 : decode cX11_man 137 = .ok (.iaload, 1) := by decide +kernel
theorem dX11_man_138 : decode cX11_man 138 = .ok (.ireturn, 1) := by decide +kernel
theorem dX11_man_139 : decode cX11_man 139 = .ok (.aload_n 0, 1) := by decide +kernel
theorem dX11_man_140 : decode cX11_man 140 = .ok (.getfield 42, 3) := by decide +kernel
theorem dX11_man_143 : decode cX11_man 143 = .ok (.getfield 129, 3) := by decide +kernel
theorem dX11_man_146 : decode cX11_man 146 = .ok (.getfield 154, 3) := by decide +kernel
theorem dX11_man_149 : decode cX11_man 149 = .ok (.iload_n 1, 1) := by decide +kernel
theorem dX11_man_150 : decode cX11_man 150 = .ok (.iaload, 1) := by decide +kernel
theorem dX11_man_151 : decode cX11_man 151 = .ok (.ireturn, 1) := by decide +kernel
theorem dX11_man_152 : decode cX11_man 152 = .ok (.aload_n 0, 1) := by decide +kernel
theorem dX11_man_153 : decode cX11_man 153 = .ok (.getfield 42, 3) := by decide +kernel
theorem dX11_man_156 : decode cX11_man 156 = .ok (.getfield 139, 3) := by decide +kernel
theorem dX11_man_159 : decode cX11_man 159 = .ok (.getfield 157, 3) := by decide +kernel
theorem dX11_man_162 : decode cX11_man 162 = .ok (.iload_n 1, 1) := by decide +kernel
theorem dX11_man_163 : decode cX11_man 163 = .ok (.iaload, 1) := by decide +kernel
theorem dX11_man_164 : decode cX11_man 164 = .ok (.ireturn, 1) := by decide +kernel
theorem dX11_man_165 : decode cX11_man 165 = .ok (.aload_n 0, 1) := by decide +kernel
theorem dX11_man_166 : decode cX11_man 166 = .ok (.getfield 42, 3) := by decide +kernel
theorem dX11_man_169 : decode cX11_man 169 = .ok (.getfield 129, 3) := by decide +kernel
theorem dX11_man_172 : decode cX11_man 172 = .ok (.getfield 160, 3) := by decide +kernel
theorem dX11_man_175 : decode cX11_man 175 = .ok (.iload_n 1, 1) := by decide +kernel
theorem dX11_man_176 : decode cX11_man 176 = .ok (.iaload, 1) := by decide +kernel
theorem dX11_man_177 : decode cX11_man 177 = .ok (.ireturn, 1) := by decide +kernel
theorem dX11_man_178 : decode cX11_man 178 = .ok (.new 126, 3) := by decide +kernel
theorem dX11_man_181 : decode cX11_man 181 = .ok (.dup, 1) := by decide +kernel
theorem dX11_man_182 : decode cX11_man 182 = .ok (.invokespecial 128, 3) := by decide +kernel
theorem dX11_man_185 : decode cX11_man 185 = .ok (.athrow, 1) := by decide +kernel
theorem dX11_thinks_0 : decode cX11_thinks 0 = .ok (.aload_n 0, 1) := by decide +kernel
theorem dX11_thinks_1 : decode cX11_thinks 1 = .ok (.getfield 42, 3) := by decide +kernel
theorem dX11_thinks_4 : decode cX11_thinks 4 = .ok (.iload_n 1, 1) := by decide +kernel
theorem dX11_thinks_5 : decode cX11_thinks 5 = .ok (.invokevirtual 122, 3) := by decide +kernel
theorem dX11_thinks_8 : decode cX11_thinks 8 = .ok (.ifCond .eq 14, 3) := by decide +kernel
theorem dX11_thinks_11 : decode cX11_thinks 11 = .ok (.aload_n 0, 1) := by decide +kernel
theorem dX11_thinks_12 : decode cX11_thinks 12 = .ok (.getfield 42, 3) := by decide +kernel
theorem dX11_thinks_15 : decode cX11_thinks 15 = .ok (.iload_n 2, 1) := by decide +kernel
theorem dX11_thinks_16 : decode cX11_thinks 16 = .ok (.invokevirtual 163, 3) := by decide +kernel
theorem dX11_thinks_19 : decode cX11_thinks 19 = .ok (.ifCond .ne 11, 3) := by decide +kernel
theorem dX11_thinks_22 : decode cX11_thinks 22 = .ok (.new 126, 3) := by decide +kernel
theorem dX11_thinks_25 : decode cX11_thinks 25 = .ok (.dup, 1) := by decide +kernel
theorem dX11_thinks_26 : decode cX11_thinks 26 = .ok (.invokespecial 128, 3) := by decide +kernel
theorem dX11_thinks_29 : decode cX11_thinks 29 = .ok (.athrow, 1) := by decide +kernel
theorem dX11_thinks_30 : decode cX11_thinks 30 = .ok (.aload_n 0, 1) := by decide +kernel
theorem dX11_thinks_31 : decode cX11_thinks 31 = .ok (.getfield 42, 3) := by decide +kernel
theorem dX11_thinks_34 : decode cX11_thinks 34 = .ok (.getfield 129, 3) := by decide +kernel
theorem dX11_thinks_37 : decode cX11_thinks 37 = .ok (.getfield 166, 3) := by decide +kernel
theorem dX11_thinks_40 : decode cX11_thinks 40 = .ok (.iload_n 1, 1) := by decide +kernel
theorem dX11_thinks_41 : decode cX11_thinks 41 = .ok (.bipush 9, 2) := by decide +kernel
theorem dX11_thinks_43 : decode cX11_thinks 43 = .ok (.imul, 1) := by decide +kernel
theorem dX11_thinks_44 : decode cX11_thinks 44 = .ok (.iload_n 2, 1) := by decide +kernel
theorem dX11_thinks_45 : decode cX11_thinks 45 = .ok (.iadd, 1) := by decide +kernel
theorem dX11_thinks_46 : decode cX11_thinks 46 = .ok (.iaload, 1) := by decide +kernel
theorem dX11_thinks_47 : decode cX11_thinks 47 = .ok (.ireturn, 1) := by decide +kernel
theorem dX11_says_0 : decode cX11_says 0 = .ok (.aload_n 0, 1) := by decide +kernel
theorem dX11_says_1 : decode cX11_says 1 = .ok (.getfield 42, 3) := by decide +kernel
theorem dX11_says_4 : decode cX11_says 4 = .ok (.iload_n 1, 1) := by decide +kernel
theorem dX11_says_5 : decode cX11_says 5 = .ok (.invokevirtual 122, 3) := by decide +kernel
theorem dX11_says_8 : decode cX11_says 8 = .ok (.ifCond .eq 14, 3) := by decide +kernel
theorem dX11_says_11 : decode cX11_says 11 = .ok (.aload_n 0, 1) := by decide +kernel
theorem dX11_says_12 : decode cX11_says 12 = .ok (.getfield 42, 3) := by decide +kernel
theorem dX11_says_15 : decode cX11_says 15 = .ok (.iload_n 2, 1) := by decide +kernel
theorem dX11_says_16 : decode cX11_says 16 = .ok (.invokevirtual 163, 3) := by decide +kernel
theorem dX11_says_19 : decode cX11_says 19 = .ok (.ifCond .ne 11, 3) := by decide +kernel
theorem dX11_says_22 : decode cX11_says 22 = .ok (.new 126, 3) := by decide +kernel
theorem dX11_says_25 : decode cX11_says 25 = .ok (.dup, 1) := by decide +kernel
theorem dX11_says_26 : decode cX11_says 26 = .ok (.invokespecial 128, 3) := by decide +kernel
theorem dX11_says_29 : decode cX11_says 29 = .ok (.athrow, 1) := by decide +kernel
theorem dX11_says_30 : decode cX11_says 30 = .ok (.aload_n 0, 1) := by decide +kernel
theorem dX11_says_31 : decode cX11_says 31 = .ok (.getfield 42, 3) := by decide +kernel
theorem dX11_says_34 : decode cX11_says 34 = .ok (.iload_n 1, 1) := by decide +kernel
theorem dX11_says_35 : decode cX11_says 35 = .ok (.iload_n 2, 1) := by decide +kernel
theorem dX11_says_36 : decode cX11_says 36 = .ok (.invokevirtual 169, 3) := by decide +kernel
theorem dX11_says_39 : decode cX11_says 39 = .ok (.ireturn, 1) := by decide +kernel
theorem dX11_now_0 : decode cX11_now 0 = .ok (.aload_n 0, 1) := by decide +kernel
theorem dX11_now_1 : decode cX11_now 1 = .ok (.getfield 42, 3) := by decide +kernel
theorem dX11_now_4 : decode cX11_now 4 = .ok (.getfield 129, 3) := by decide +kernel
theorem dX11_now_7 : decode cX11_now 7 = .ok (.astore_n 2, 1) := by decide +kernel
theorem dX11_now_8 : decode cX11_now 8 = .ok (.iload_n 1, 1) := by decide +kernel
theorem dX11_now_9 : decode cX11_now 9 = .ok (.tableswitch 90 0 7 #[47, 52, 57, 62, 67, 72, 77, 85], 47) := by decide +kernel
theorem dX11_now_56 : decode cX11_now 56 = .ok (.aload_n 2, 1) := by decide +kernel
theorem dX11_now_57 : decode cX11_now 57 = .ok (.getfield 172, 3) := by decide +kernel
theorem dX11_now_60 : decode cX11_now 60 = .ok (.ireturn, 1) := by decide +kernel
theorem dX11_now_61 : decode cX11_now 61 = .ok (.aload_n 2, 1) := by decide +kernel
theorem dX11_now_62 : decode cX11_now 62 = .ok (.getfield 175, 3) := by decide +kernel
theorem dX11_now_65 : decode cX11_now 65 = .ok (.ireturn, 1) := by decide +kernel
theorem dX11_now_66 : decode cX11_now 66 = .ok (.aload_n 2, 1) := by decide +kernel
theorem dX11_now_67 : decode cX11_now 67 = .ok (.getfield 178, 3) := by decide +kernel
theorem dX11_now_70 : decode cX11_now 70 = .ok (.ireturn, 1) := by decide +kernel
theorem dX11_now_71 : decode cX11_now 71 = .ok (.aload_n 2, 1) := by decide +kernel
theorem dX11_now_72 : decode cX11_now 72 = .ok (.getfield 181, 3) := by decide +kernel
theorem dX11_now_75 : decode cX11_now 75 = .ok (.ireturn, 1) := by decide +kernel
theorem dX11_now_76 : decode cX11_now 76 = .ok (.aload_n 2, 1) := by decide +kernel
theorem dX11_now_77 : decode cX11_now 77 = .ok (.getfield 132, 3) := by decide +kernel
theorem dX11_now_80 : decode cX11_now 80 = .ok (.ireturn, 1) := by decide +kernel
theorem dX11_now_81 : decode cX11_now 81 = .ok (.aload_n 2, 1) := by decide +kernel
theorem dX11_now_82 : decode cX11_now 82 = .ok (.getfield 148, 3) := by decide +kernel
theorem dX11_now_85 : decode cX11_now 85 = .ok (.ireturn, 1) := by decide +kernel
theorem dX11_now_86 : decode cX11_now 86 = .ok (.aload_n 0, 1) := by decide +kernel
theorem dX11_now_87 : decode cX11_now 87 = .ok (.getfield 42, 3) := by decide +kernel
theorem dX11_now_90 : decode cX11_now 90 = .ok (.invokevirtual 184, 3) := by decide +kernel
theorem dX11_now_93 : decode cX11_now 93 = .ok (.ireturn, 1) := by decide +kernel
theorem dX11_now_94 : decode cX11_now 94 = .ok (.aload_n 2, 1) := by decide +kernel
theorem dX11_now_95 : decode cX11_now 95 = .ok (.getfield 145, 3) := by decide +kernel
theorem dX11_now_98 : decode cX11_now 98 = .ok (.ireturn, 1) := by decide +kernel
theorem dX11_now_99 : decode cX11_now 99 = .ok (.iconst (-1), 1) := by decide +kernel
theorem dX11_now_100 : decode cX11_now 100 = .ok (.ireturn, 1) := by decide +kernel
theorem dX11_why_0 : decode cX11_why 0 = .ok (.aload_n 0, 1) := by decide +kernel
theorem dX11_why_1 : decode cX11_why 1 = .ok (.getfield 42, 3) := by decide +kernel
theorem dX11_why_4 : decode cX11_why 4 = .ok (.iload_n 1, 1) := by decide +kernel
theorem dX11_why_5 : decode cX11_why 5 = .ok (.invokevirtual 188, 3) := by decide +kernel
theorem dX11_why_8 : decode cX11_why 8 = .ok (.ifCond .eq 14, 3) := by decide +kernel
theorem dX11_why_11 : decode cX11_why 11 = .ok (.aload_n 0, 1) := by decide +kernel
theorem dX11_why_12 : decode cX11_why 12 = .ok (.getfield 42, 3) := by decide +kernel
theorem dX11_why_15 : decode cX11_why 15 = .ok (.iload_n 1, 1) := by decide +kernel
theorem dX11_why_16 : decode cX11_why 16 = .ok (.invokevirtual 191, 3) := by decide +kernel
theorem dX11_why_19 : decode cX11_why 19 = .ok (.goto 4, 3) := by decide +kernel
theorem dX11_why_22 : decode cX11_why 22 = .ok (.iconst (-1), 1) := by decide +kernel
theorem dX11_why_23 : decode cX11_why 23 = .ok (.ireturn, 1) := by decide +kernel
theorem dX11_cross_0 : decode cX11_cross 0 = .ok (.aload_n 0, 1) := by decide +kernel
theorem dX11_cross_1 : decode cX11_cross 1 = .ok (.getfield 42, 3) := by decide +kernel
theorem dX11_cross_4 : decode cX11_cross 4 = .ok (.iload_n 1, 1) := by decide +kernel
theorem dX11_cross_5 : decode cX11_cross 5 = .ok (.invokevirtual 188, 3) := by decide +kernel
theorem dX11_cross_8 : decode cX11_cross 8 = .ok (.ifCond .eq 14, 3) := by decide +kernel
theorem dX11_cross_11 : decode cX11_cross 11 = .ok (.aload_n 0, 1) := by decide +kernel
theorem dX11_cross_12 : decode cX11_cross 12 = .ok (.iconst 0, 1) := by decide +kernel
theorem dX11_cross_13 : decode cX11_cross 13 = .ok (.iload_n 1, 1) := by decide +kernel
theorem dX11_cross_14 : decode cX11_cross 14 = .ok (.iconst (-1), 1) := by decide +kernel
theorem dX11_cross_15 : decode cX11_cross 15 = .ok (.iconst 0, 1) := by decide +kernel
theorem dX11_cross_16 : decode cX11_cross 16 = .ok (.invokevirtual 195, 3) := by decide +kernel
theorem dX11_cross_19 : decode cX11_cross 19 = .ok (.goto 4, 3) := by decide +kernel
theorem dX11_cross_22 : decode cX11_cross 22 = .ok (.iconst (-1), 1) := by decide +kernel
theorem dX11_cross_23 : decode cX11_cross 23 = .ok (.ireturn, 1) := by decide +kernel
theorem dX11_raise_0 : decode cX11_raise 0 = .ok (.aload_n 0, 1) := by decide +kernel
theorem dX11_raise_1 : decode cX11_raise 1 = .ok (.getfield 42, 3) := by decide +kernel
theorem dX11_raise_4 : decode cX11_raise 4 = .ok (.iload_n 1, 1) := by decide +kernel
theorem dX11_raise_5 : decode cX11_raise 5 = .ok (.invokevirtual 163, 3) := by decide +kernel
theorem dX11_raise_8 : decode cX11_raise 8 = .ok (.ifCond .eq 14, 3) := by decide +kernel
theorem dX11_raise_11 : decode cX11_raise 11 = .ok (.aload_n 0, 1) := by decide +kernel
theorem dX11_raise_12 : decode cX11_raise 12 = .ok (.iconst 1, 1) := by decide +kernel
theorem dX11_raise_13 : decode cX11_raise 13 = .ok (.iconst (-1), 1) := by decide +kernel
theorem dX11_raise_14 : decode cX11_raise 14 = .ok (.iload_n 1, 1) := by decide +kernel
theorem dX11_raise_15 : decode cX11_raise 15 = .ok (.iconst 0, 1) := by decide +kernel
theorem dX11_raise_16 : decode cX11_raise 16 = .ok (.invokevirtual 195, 3) := by decide +kernel
theorem dX11_raise_19 : decode cX11_raise 19 = .ok (.goto 4, 3) := by decide +kernel
theorem dX11_raise_22 : decode cX11_raise 22 = .ok (.iconst (-1), 1) := by decide +kernel
theorem dX11_raise_23 : decode cX11_raise 23 = .ok (.ireturn, 1) := by decide +kernel
theorem dX11_hire_0 : decode cX11_hire 0 = .ok (.aload_n 0, 1) := by decide +kernel
theorem dX11_hire_1 : decode cX11_hire 1 = .ok (.getfield 42, 3) := by decide +kernel
theorem dX11_hire_4 : decode cX11_hire 4 = .ok (.iload_n 1, 1) := by decide +kernel
theorem dX11_hire_5 : decode cX11_hire 5 = .ok (.invokevirtual 122, 3) := by decide +kernel
theorem dX11_hire_8 : decode cX11_hire 8 = .ok (.ifCond .eq 14, 3) := by decide +kernel
theorem dX11_hire_11 : decode cX11_hire 11 = .ok (.aload_n 0, 1) := by decide +kernel
theorem dX11_hire_12 : decode cX11_hire 12 = .ok (.iconst 2, 1) := by decide +kernel
theorem dX11_hire_13 : decode cX11_hire 13 = .ok (.iload_n 1, 1) := by decide +kernel
theorem dX11_hire_14 : decode cX11_hire 14 = .ok (.iconst (-1), 1) := by decide +kernel
theorem dX11_hire_15 : decode cX11_hire 15 = .ok (.iconst 0, 1) := by decide +kernel
theorem dX11_hire_16 : decode cX11_hire 16 = .ok (.invokevirtual 195, 3) := by decide +kernel
theorem dX11_hire_19 : decode cX11_hire 19 = .ok (.goto 4, 3) := by decide +kernel
theorem dX11_hire_22 : decode cX11_hire 22 = .ok (.iconst (-1), 1) := by decide +kernel
theorem dX11_hire_23 : decode cX11_hire 23 = .ok (.ireturn, 1) := by decide +kernel
theorem dX11_lie_0 : decode cX11_lie 0 = .ok (.aload_n 0, 1) := by decide +kernel
theorem dX11_lie_1 : decode cX11_lie 1 = .ok (.iload_n 1, 1) := by decide +kernel
theorem dX11_lie_2 : decode cX11_lie 2 = .ok (.iload_n 2, 1) := by decide +kernel
theorem dX11_lie_3 : decode cX11_lie 3 = .ok (.iload_n 3, 1) := by decide +kernel
theorem dX11_lie_4 : decode cX11_lie 4 = .ok (.invokevirtual 199, 3) := by decide +kernel
theorem dX11_lie_7 : decode cX11_lie 7 = .ok (.ifCond .eq 14, 3) := by decide +kernel
theorem dX11_lie_10 : decode cX11_lie 10 = .ok (.aload_n 0, 1) := by decide +kernel
theorem dX11_lie_11 : decode cX11_lie 11 = .ok (.iconst 3, 1) := by decide +kernel
theorem dX11_lie_12 : decode cX11_lie 12 = .ok (.iload_n 1, 1) := by decide +kernel
theorem dX11_lie_13 : decode cX11_lie 13 = .ok (.iload_n 2, 1) := by decide +kernel
theorem dX11_lie_14 : decode cX11_lie 14 = .ok (.iload_n 3, 1) := by decide +kernel
theorem dX11_lie_15 : decode cX11_lie 15 = .ok (.invokevirtual 195, 3) := by decide +kernel
theorem dX11_lie_18 : decode cX11_lie 18 = .ok (.goto 4, 3) := by decide +kernel
theorem dX11_lie_21 : decode cX11_lie 21 = .ok (.iconst (-1), 1) := by decide +kernel
theorem dX11_lie_22 : decode cX11_lie 22 = .ok (.ireturn, 1) := by decide +kernel
theorem dX11_turn_0 : decode cX11_turn 0 = .ok (.aload_n 0, 1) := by decide +kernel
theorem dX11_turn_1 : decode cX11_turn 1 = .ok (.iload_n 1, 1) := by decide +kernel
theorem dX11_turn_2 : decode cX11_turn 2 = .ok (.iload_n 2, 1) := by decide +kernel
theorem dX11_turn_3 : decode cX11_turn 3 = .ok (.iload_n 3, 1) := by decide +kernel
theorem dX11_turn_4 : decode cX11_turn 4 = .ok (.invokevirtual 199, 3) := by decide +kernel
theorem dX11_turn_7 : decode cX11_turn 7 = .ok (.ifCond .eq 14, 3) := by decide +kernel
theorem dX11_turn_10 : decode cX11_turn 10 = .ok (.aload_n 0, 1) := by decide +kernel
theorem dX11_turn_11 : decode cX11_turn 11 = .ok (.iconst 4, 1) := by decide +kernel
theorem dX11_turn_12 : decode cX11_turn 12 = .ok (.iload_n 1, 1) := by decide +kernel
theorem dX11_turn_13 : decode cX11_turn 13 = .ok (.iload_n 2, 1) := by decide +kernel
theorem dX11_turn_14 : decode cX11_turn 14 = .ok (.iload_n 3, 1) := by decide +kernel
theorem dX11_turn_15 : decode cX11_turn 15 = .ok (.invokevirtual 195, 3) := by decide +kernel
theorem dX11_turn_18 : decode cX11_turn 18 = .ok (.goto 4, 3) := by decide +kernel
theorem dX11_turn_21 : decode cX11_turn 21 = .ok (.iconst (-1), 1) := by decide +kernel
theorem dX11_turn_22 : decode cX11_turn 22 = .ok (.ireturn, 1) := by decide +kernel
theorem dX11_undo_0 : decode cX11_undo 0 = .ok (.aload_n 0, 1) := by decide +kernel
theorem dX11_undo_1 : decode cX11_undo 1 = .ok (.getfield 116, 3) := by decide +kernel
theorem dX11_undo_4 : decode cX11_undo 4 = .ok (.ifCond .gt 5, 3) := by decide +kernel
theorem dX11_undo_7 : decode cX11_undo 7 = .ok (.iconst (-1), 1) := by decide +kernel
theorem dX11_undo_8 : decode cX11_undo 8 = .ok (.ireturn, 1) := by decide +kernel
theorem dX11_undo_9 : decode cX11_undo 9 = .ok (.aload_n 0, 1) := by decide +kernel
theorem dX11_undo_10 : decode cX11_undo 10 = .ok (.dup, 1) := by decide +kernel
theorem dX11_undo_11 : decode cX11_undo 11 = .ok (.getfield 116, 3) := by decide +kernel
theorem dX11_undo_14 : decode cX11_undo 14 = .ok (.iconst 1, 1) := by decide +kernel
theorem dX11_undo_15 : decode cX11_undo 15 = .ok (.isub, 1) := by decide +kernel
theorem dX11_undo_16 : decode cX11_undo 16 = .ok (.putfield 116, 3) := by decide +kernel
theorem dX11_undo_19 : decode cX11_undo 19 = .ok (.aload_n 0, 1) := by decide +kernel
theorem dX11_undo_20 : decode cX11_undo 20 = .ok (.getfield 42, 3) := by decide +kernel
theorem dX11_undo_23 : decode cX11_undo 23 = .ok (.getfield 129, 3) := by decide +kernel
theorem dX11_undo_26 : decode cX11_undo 26 = .ok (.aload_n 0, 1) := by decide +kernel
theorem dX11_undo_27 : decode cX11_undo 27 = .ok (.getfield 60, 3) := by decide +kernel
theorem dX11_undo_30 : decode cX11_undo 30 = .ok (.aload_n 0, 1) := by decide +kernel
theorem dX11_undo_31 : decode cX11_undo 31 = .ok (.getfield 203, 3) := by decide +kernel
theorem dX11_undo_34 : decode cX11_undo 34 = .ok (.aload_n 0, 1) := by decide +kernel
theorem dX11_undo_35 : decode cX11_undo 35 = .ok (.getfield 116, 3) := by decide +kernel
theorem dX11_undo_38 : decode cX11_undo 38 = .ok (.iadd, 1) := by decide +kernel
theorem dX11_undo_39 : decode cX11_undo 39 = .ok (.bipush 8, 2) := by decide +kernel
theorem dX11_undo_41 : decode cX11_undo 41 = .ok (.irem, 1) := by decide +kernel
theorem dX11_undo_42 : decode cX11_undo 42 = .ok (.aaload, 1) := by decide +kernel
theorem dX11_undo_43 : decode cX11_undo 43 = .ok (.invokevirtual 206, 3) := by decide +kernel
theorem dX11_undo_46 : decode cX11_undo 46 = .ok (.aload_n 0, 1) := by decide +kernel
theorem dX11_undo_47 : decode cX11_undo 47 = .ok (.getfield 116, 3) := by decide +kernel
theorem dX11_undo_50 : decode cX11_undo 50 = .ok (.ireturn, 1) := by decide +kernel
theorem dX11_sum_0 : decode cX11_sum 0 = .ok (.aload_n 0, 1) := by decide +kernel
theorem dX11_sum_1 : decode cX11_sum 1 = .ok (.iload_n 1, 1) := by decide +kernel
theorem dX11_sum_2 : decode cX11_sum 2 = .ok (.invokevirtual 210, 3) := by decide +kernel
theorem dX11_sum_5 : decode cX11_sum 5 = .ok (.ifCond .ne 11, 3) := by decide +kernel
theorem dX11_sum_8 : decode cX11_sum 8 = .ok (.new 126, 3) := by decide +kernel
theorem dX11_sum_11 : decode cX11_sum 11 = .ok (.dup, 1) := by decide +kernel
theorem dX11_sum_12 : decode cX11_sum 12 = .ok (.invokespecial 128, 3) := by decide +kernel
theorem dX11_sum_15 : decode cX11_sum 15 = .ok (.athrow, 1) := by decide +kernel
theorem dX11_sum_16 : decode cX11_sum 16 = .ok (.aload_n 0, 1) := by decide +kernel
theorem dX11_sum_17 : decode cX11_sum 17 = .ok (.getfield 42, 3) := by decide +kernel
theorem dX11_sum_20 : decode cX11_sum 20 = .ok (.iload_n 1, 1) := by decide +kernel
theorem dX11_sum_21 : decode cX11_sum 21 = .ok (.aload_n 0, 1) := by decide +kernel
theorem dX11_sum_22 : decode cX11_sum 22 = .ok (.getfield 42, 3) := by decide +kernel
theorem dX11_sum_25 : decode cX11_sum 25 = .ok (.getfield 129, 3) := by decide +kernel
theorem dX11_sum_28 : decode cX11_sum 28 = .ok (.getfield 175, 3) := by decide +kernel
theorem dX11_sum_31 : decode cX11_sum 31 = .ok (.invokevirtual 213, 3) := by decide +kernel
theorem dX11_sum_34 : decode cX11_sum 34 = .ok (.ireturn, 1) := by decide +kernel
theorem dX11_crews_0 : decode cX11_crews 0 = .ok (.iconst 0, 1) := by decide +kernel
theorem dX11_crews_1 : decode cX11_crews 1 = .ok (.istore_n 2, 1) := by decide +kernel
theorem dX11_crews_2 : decode cX11_crews 2 = .ok (.aload_n 0, 1) := by decide +kernel
theorem dX11_crews_3 : decode cX11_crews 3 = .ok (.invokevirtual 216, 3) := by decide +kernel
theorem dX11_crews_6 : decode cX11_crews 6 = .ok (.istore_n 3, 1) := by decide +kernel
theorem dX11_crews_7 : decode cX11_crews 7 = .ok (.iconst 1, 1) := by decide +kernel
theorem dX11_crews_8 : decode cX11_crews 8 = .ok (.istore 4, 2) := by decide +kernel
theorem dX11_crews_10 : decode cX11_crews 10 = .ok (.iload 4, 2) := by decide +kernel
theorem dX11_crews_12 : decode cX11_crews 12 = .ok (.iload_n 3, 1) := by decide +kernel
theorem dX11_crews_13 : decode cX11_crews 13 = .ok (.if_icmp .gt 33, 3) := by decide +kernel
theorem dX11_crews_16 : decode cX11_crews 16 = .ok (.aload_n 0, 1) := by decide +kernel
theorem dX11_crews_17 : decode cX11_crews 17 = .ok (.getfield 56, 3) := by decide +kernel
theorem dX11_crews_20 : decode cX11_crews 20 = .ok (.iload 4, 2) := by decide +kernel
theorem dX11_crews_22 : decode cX11_crews 22 = .ok (.iload_n 3, 1) := by decide +kernel
theorem dX11_crews_23 : decode cX11_crews 23 = .ok (.invokevirtual 219, 3) := by decide +kernel
theorem dX11_crews_26 : decode cX11_crews 26 = .ok (.ifCond .eq 14, 3) := by decide +kernel
theorem dX11_crews_29 : decode cX11_crews 29 = .ok (.iload_n 2, 1) := by decide +kernel
theorem dX11_crews_30 : decode cX11_crews 30 = .ok (.iload_n 1, 1) := by decide +kernel
theorem dX11_crews_31 : decode cX11_crews 31 = .ok (.if_icmp .ne 6, 3) := by decide +kernel
theorem dX11_crews_34 : decode cX11_crews 34 = .ok (.iload 4, 2) := by decide +kernel
theorem dX11_crews_36 : decode cX11_crews 36 = .ok (.ireturn, 1) := by decide +kernel
theorem dX11_crews_37 : decode cX11_crews 37 = .ok (.iinc 2 1, 3) := by decide +kernel
theorem dX11_crews_40 : decode cX11_crews 40 = .ok (.iinc 4 1, 3) := by decide +kernel
theorem dX11_crews_43 : decode cX11_crews 43 = .ok (.goto (-33), 3) := by decide +kernel
theorem dX11_crews_46 : decode cX11_crews 46 = .ok (.iload_n 1, 1) := by decide +kernel
theorem dX11_crews_47 : decode cX11_crews 47 = .ok (.iconst (-1), 1) := by decide +kernel
theorem dX11_crews_48 : decode cX11_crews 48 = .ok (.if_icmp .ne 7, 3) := by decide +kernel
theorem dX11_crews_51 : decode cX11_crews 51 = .ok (.iload_n 2, 1) := by decide +kernel
theorem dX11_crews_52 : decode cX11_crews 52 = .ok (.goto 4, 3) := by decide +kernel
theorem dX11_crews_55 : decode cX11_crews 55 = .ok (.iconst (-1), 1) := by decide +kernel
theorem dX11_crews_56 : decode cX11_crews 56 = .ok (.ireturn, 1) := by decide +kernel
theorem dX11_largest_0 : decode cX11_largest 0 = .ok (.iconst 0, 1) := by decide +kernel
theorem dX11_largest_1 : decode cX11_largest 1 = .ok (.istore_n 1, 1) := by decide +kernel
theorem dX11_largest_2 : decode cX11_largest 2 = .ok (.iconst (-1), 1) := by decide +kernel
theorem dX11_largest_3 : decode cX11_largest 3 = .ok (.istore_n 2, 1) := by decide +kernel
theorem dX11_largest_4 : decode cX11_largest 4 = .ok (.aload_n 0, 1) := by decide +kernel
theorem dX11_largest_5 : decode cX11_largest 5 = .ok (.invokevirtual 216, 3) := by decide +kernel
theorem dX11_largest_8 : decode cX11_largest 8 = .ok (.istore_n 3, 1) := by decide +kernel
theorem dX11_largest_9 : decode cX11_largest 9 = .ok (.iconst 1, 1) := by decide +kernel
theorem dX11_largest_10 : decode cX11_largest 10 = .ok (.istore 4, 2) := by decide +kernel
theorem dX11_largest_12 : decode cX11_largest 12 = .ok (.iload 4, 2) := by decide +kernel
theorem dX11_largest_14 : decode cX11_largest 14 = .ok (.iload_n 3, 1) := by decide +kernel
theorem dX11_largest_15 : decode cX11_largest 15 = .ok (.if_icmp .gt 40, 3) := by decide +kernel
theorem dX11_largest_18 : decode cX11_largest 18 = .ok (.aload_n 0, 1) := by decide +kernel
theorem dX11_largest_19 : decode cX11_largest 19 = .ok (.getfield 56, 3) := by decide +kernel
theorem dX11_largest_22 : decode cX11_largest 22 = .ok (.iload 4, 2) := by decide +kernel
theorem dX11_largest_24 : decode cX11_largest 24 = .ok (.iload_n 3, 1) := by decide +kernel
theorem dX11_largest_25 : decode cX11_largest 25 = .ok (.invokevirtual 219, 3) := by decide +kernel
theorem dX11_largest_28 : decode cX11_largest 28 = .ok (.ifCond .eq 21, 3) := by decide +kernel
theorem dX11_largest_31 : decode cX11_largest 31 = .ok (.iload 4, 2) := by decide +kernel
theorem dX11_largest_33 : decode cX11_largest 33 = .ok (.invokestatic 223, 3) := by decide +kernel
theorem dX11_largest_36 : decode cX11_largest 36 = .ok (.iload_n 1, 1) := by decide +kernel
theorem dX11_largest_37 : decode cX11_largest 37 = .ok (.if_icmp .le 12, 3) := by decide +kernel
theorem dX11_largest_40 : decode cX11_largest 40 = .ok (.iload 4, 2) := by decide +kernel
theorem dX11_largest_42 : decode cX11_largest 42 = .ok (.invokestatic 223, 3) := by decide +kernel
theorem dX11_largest_45 : decode cX11_largest 45 = .ok (.istore_n 1, 1) := by decide +kernel
theorem dX11_largest_46 : decode cX11_largest 46 = .ok (.iload 4, 2) := by decide +kernel
theorem dX11_largest_48 : decode cX11_largest 48 = .ok (.istore_n 2, 1) := by decide +kernel
theorem dX11_largest_49 : decode cX11_largest 49 = .ok (.iinc 4 1, 3) := by decide +kernel
theorem dX11_largest_52 : decode cX11_largest 52 = .ok (.goto (-40), 3) := by decide +kernel
theorem dX11_largest_55 : decode cX11_largest 55 = .ok (.iload_n 2, 1) := by decide +kernel
theorem dX11_largest_56 : decode cX11_largest 56 = .ok (.ireturn, 1) := by decide +kernel
theorem dX11_stuck_0 : decode cX11_stuck 0 = .ok (.iconst 0, 1) := by decide +kernel
theorem dX11_stuck_1 : decode cX11_stuck 1 = .ok (.istore_n 1, 1) := by decide +kernel
theorem dX11_stuck_2 : decode cX11_stuck 2 = .ok (.aload_n 0, 1) := by decide +kernel
theorem dX11_stuck_3 : decode cX11_stuck 3 = .ok (.invokevirtual 216, 3) := by decide +kernel
theorem dX11_stuck_6 : decode cX11_stuck 6 = .ok (.istore_n 2, 1) := by decide +kernel
theorem dX11_stuck_7 : decode cX11_stuck 7 = .ok (.iconst 1, 1) := by decide +kernel
theorem dX11_stuck_8 : decode cX11_stuck 8 = .ok (.istore_n 3, 1) := by decide +kernel
theorem dX11_stuck_9 : decode cX11_stuck 9 = .ok (.iload_n 3, 1) := by decide +kernel
theorem dX11_stuck_10 : decode cX11_stuck 10 = .ok (.iload_n 2, 1) := by decide +kernel
theorem dX11_stuck_11 : decode cX11_stuck 11 = .ok (.if_icmp .gt 25, 3) := by decide +kernel
theorem dX11_stuck_14 : decode cX11_stuck 14 = .ok (.aload_n 0, 1) := by decide +kernel
theorem dX11_stuck_15 : decode cX11_stuck 15 = .ok (.getfield 56, 3) := by decide +kernel
theorem dX11_stuck_18 : decode cX11_stuck 18 = .ok (.iload_n 3, 1) := by decide +kernel
theorem dX11_stuck_19 : decode cX11_stuck 19 = .ok (.iload_n 2, 1) := by decide +kernel
theorem dX11_stuck_20 : decode cX11_stuck 20 = .ok (.invokevirtual 219, 3) := by decide +kernel
theorem dX11_stuck_23 : decode cX11_stuck 23 = .ok (.ifCond .eq 7, 3) := by decide +kernel
theorem dX11_stuck_26 : decode cX11_stuck 26 = .ok (.iload_n 1, 1) := by decide +kernel
theorem dX11_stuck_27 : decode cX11_stuck 27 = .ok (.iload_n 3, 1) := by decide +kernel
theorem dX11_stuck_28 : decode cX11_stuck 28 = .ok (.ior, 1) := by decide +kernel
theorem dX11_stuck_29 : decode cX11_stuck 29 = .ok (.istore_n 1, 1) := by decide +kernel
theorem dX11_stuck_30 : decode cX11_stuck 30 = .ok (.iinc 3 1, 3) := by decide +kernel
theorem dX11_stuck_33 : decode cX11_stuck 33 = .ok (.goto (-24), 3) := by decide +kernel
theorem dX11_stuck_36 : decode cX11_stuck 36 = .ok (.aload_n 0, 1) := by decide +kernel
theorem dX11_stuck_37 : decode cX11_stuck 37 = .ok (.getfield 42, 3) := by decide +kernel
theorem dX11_stuck_40 : decode cX11_stuck 40 = .ok (.invokevirtual 228, 3) := by decide +kernel
theorem dX11_stuck_43 : decode cX11_stuck 43 = .ok (.iload_n 1, 1) := by decide +kernel
theorem dX11_stuck_44 : decode cX11_stuck 44 = .ok (.iconst (-1), 1) := by decide +kernel
theorem dX11_stuck_45 : decode cX11_stuck 45 = .ok (.ixor, 1) := by decide +kernel
theorem dX11_stuck_46 : decode cX11_stuck 46 = .ok (.iand, 1) := by decide +kernel
theorem dX11_stuck_47 : decode cX11_stuck 47 = .ok (.ireturn, 1) := by decide +kernel
theorem dX11_trips_0 : decode cX11_trips 0 = .ok (.aload_n 0, 1) := by decide +kernel
theorem dX11_trips_1 : decode cX11_trips 1 = .ok (.getfield 42, 3) := by decide +kernel
theorem dX11_trips_4 : decode cX11_trips 4 = .ok (.iload_n 1, 1) := by decide +kernel
theorem dX11_trips_5 : decode cX11_trips 5 = .ok (.invokevirtual 163, 3) := by decide +kernel
theorem dX11_trips_8 : decode cX11_trips 8 = .ok (.ifCond .eq 18, 3) := by decide +kernel
theorem dX11_trips_11 : decode cX11_trips 11 = .ok (.aload_n 0, 1) := by decide +kernel
theorem dX11_trips_12 : decode cX11_trips 12 = .ok (.getfield 56, 3) := by decide +kernel
theorem dX11_trips_15 : decode cX11_trips 15 = .ok (.aload_n 0, 1) := by decide +kernel
theorem dX11_trips_16 : decode cX11_trips 16 = .ok (.getfield 42, 3) := by decide +kernel
theorem dX11_trips_19 : decode cX11_trips 19 = .ok (.iload_n 1, 1) := by decide +kernel
theorem dX11_trips_20 : decode cX11_trips 20 = .ok (.invokevirtual 231, 3) := by decide +kernel
theorem dX11_trips_23 : decode cX11_trips 23 = .ok (.goto 4, 3) := by decide +kernel
theorem dX11_trips_26 : decode cX11_trips 26 = .ok (.iconst (-1), 1) := by decide +kernel
theorem dX11_trips_27 : decode cX11_trips 27 = .ok (.ireturn, 1) := by decide +kernel
theorem dX11_next_0 : decode cX11_next 0 = .ok (.aload_n 0, 1) := by decide +kernel
theorem dX11_next_1 : decode cX11_next 1 = .ok (.getfield 42, 3) := by decide +kernel
theorem dX11_next_4 : decode cX11_next 4 = .ok (.getfield 139, 3) := by decide +kernel
theorem dX11_next_7 : decode cX11_next 7 = .ok (.getfield 235, 3) := by decide +kernel
theorem dX11_next_10 : decode cX11_next 10 = .ok (.ifCond .ne 5, 3) := by decide +kernel
theorem dX11_next_13 : decode cX11_next 13 = .ok (.iconst (-1), 1) := by decide +kernel
theorem dX11_next_14 : decode cX11_next 14 = .ok (.ireturn, 1) := by decide +kernel
theorem dX11_next_15 : decode cX11_next 15 = .ok (.aload_n 0, 1) := by decide +kernel
theorem dX11_next_16 : decode cX11_next 16 = .ok (.getfield 56, 3) := by decide +kernel
theorem dX11_next_19 : decode cX11_next 19 = .ok (.aload_n 0, 1) := by decide +kernel
theorem dX11_next_20 : decode cX11_next 20 = .ok (.getfield 42, 3) := by decide +kernel
theorem dX11_next_23 : decode cX11_next 23 = .ok (.aload_n 0, 1) := by decide +kernel
theorem dX11_next_24 : decode cX11_next 24 = .ok (.getfield 42, 3) := by decide +kernel
theorem dX11_next_27 : decode cX11_next 27 = .ok (.getfield 129, 3) := by decide +kernel
theorem dX11_next_30 : decode cX11_next 30 = .ok (.getfield 175, 3) := by decide +kernel
theorem dX11_next_33 : decode cX11_next 33 = .ok (.invokevirtual 238, 3) := by decide +kernel
theorem dX11_next_36 : decode cX11_next 36 = .ok (.ireturn, 1) := by decide +kernel
theorem dX11_best_0 : decode cX11_best 0 = .ok (.iconst (-1), 1) := by decide +kernel
theorem dX11_best_1 : decode cX11_best 1 = .ok (.istore_n 1, 1) := by decide +kernel
theorem dX11_best_2 : decode cX11_best 2 = .ok (.iconst (-1), 1) := by decide +kernel
theorem dX11_best_3 : decode cX11_best 3 = .ok (.istore_n 2, 1) := by decide +kernel
theorem dX11_best_4 : decode cX11_best 4 = .ok (.iconst 0, 1) := by decide +kernel
theorem dX11_best_5 : decode cX11_best 5 = .ok (.istore_n 3, 1) := by decide +kernel
theorem dX11_best_6 : decode cX11_best 6 = .ok (.iload_n 3, 1) := by decide +kernel
theorem dX11_best_7 : decode cX11_best 7 = .ok (.aload_n 0, 1) := by decide +kernel
theorem dX11_best_8 : decode cX11_best 8 = .ok (.getfield 42, 3) := by decide +kernel
theorem dX11_best_11 : decode cX11_best 11 = .ok (.getfield 139, 3) := by decide +kernel
theorem dX11_best_14 : decode cX11_best 14 = .ok (.getfield 235, 3) := by decide +kernel
theorem dX11_best_17 : decode cX11_best 17 = .ok (.if_icmp .ge 45, 3) := by decide +kernel
theorem dX11_best_20 : decode cX11_best 20 = .ok (.aload_n 0, 1) := by decide +kernel
theorem dX11_best_21 : decode cX11_best 21 = .ok (.getfield 56, 3) := by decide +kernel
theorem dX11_best_24 : decode cX11_best 24 = .ok (.aload_n 0, 1) := by decide +kernel
theorem dX11_best_25 : decode cX11_best 25 = .ok (.getfield 42, 3) := by decide +kernel
theorem dX11_best_28 : decode cX11_best 28 = .ok (.iload_n 3, 1) := by decide +kernel
theorem dX11_best_29 : decode cX11_best 29 = .ok (.invokevirtual 231, 3) := by decide +kernel
theorem dX11_best_32 : decode cX11_best 32 = .ok (.istore 4, 2) := by decide +kernel
theorem dX11_best_34 : decode cX11_best 34 = .ok (.iload 4, 2) := by decide +kernel
theorem dX11_best_36 : decode cX11_best 36 = .ok (.iconst (-1), 1) := by decide +kernel
theorem dX11_best_37 : decode cX11_best 37 = .ok (.if_icmp .eq 19, 3) := by decide +kernel
theorem dX11_best_40 : decode cX11_best 40 = .ok (.iload_n 1, 1) := by decide +kernel
theorem dX11_best_41 : decode cX11_best 41 = .ok (.iconst (-1), 1) := by decide +kernel
theorem dX11_best_42 : decode cX11_best 42 = .ok (.if_icmp .eq 9, 3) := by decide +kernel
theorem dX11_best_45 : decode cX11_best 45 = .ok (.iload 4, 2) := by decide +kernel
theorem dX11_best_47 : decode cX11_best 47 = .ok (.iload_n 2, 1) := by decide +kernel
theorem dX11_best_48 : decode cX11_best 48 = .ok (.if_icmp .ge 8, 3) := by decide +kernel
theorem dX11_best_51 : decode cX11_best 51 = .ok (.iload_n 3, 1) := by decide +kernel
theorem dX11_best_52 : decode cX11_best 52 = .ok (.istore_n 1, 1) := by decide +kernel
theorem dX11_best_53 : decode cX11_best 53 = .ok (.iload 4, 2) := by decide +kernel
theorem dX11_best_55 : decode cX11_best 55 = .ok (.istore_n 2, 1) := by decide +kernel
theorem dX11_best_56 : decode cX11_best 56 = .ok (.iinc 3 1, 3) := by decide +kernel
theorem dX11_best_59 : decode cX11_best 59 = .ok (.goto (-53), 3) := by decide +kernel
theorem dX11_best_62 : decode cX11_best 62 = .ok (.iload_n 1, 1) := by decide +kernel
theorem dX11_best_63 : decode cX11_best 63 = .ok (.ireturn, 1) := by decide +kernel
theorem dX11_easy_0 : decode cX11_easy 0 = .ok (.iconst 0, 1) := by decide +kernel
theorem dX11_easy_1 : decode cX11_easy 1 = .ok (.istore_n 1, 1) := by decide +kernel
theorem dX11_easy_2 : decode cX11_easy 2 = .ok (.aload_n 0, 1) := by decide +kernel
theorem dX11_easy_3 : decode cX11_easy 3 = .ok (.getfield 42, 3) := by decide +kernel
theorem dX11_easy_6 : decode cX11_easy 6 = .ok (.invokevirtual 228, 3) := by decide +kernel
theorem dX11_easy_9 : decode cX11_easy 9 = .ok (.istore_n 2, 1) := by decide +kernel
theorem dX11_easy_10 : decode cX11_easy 10 = .ok (.iconst 0, 1) := by decide +kernel
theorem dX11_easy_11 : decode cX11_easy 11 = .ok (.istore_n 3, 1) := by decide +kernel
theorem dX11_easy_12 : decode cX11_easy 12 = .ok (.iload_n 3, 1) := by decide +kernel
theorem dX11_easy_13 : decode cX11_easy 13 = .ok (.aload_n 0, 1) := by decide +kernel
theorem dX11_easy_14 : decode cX11_easy 14 = .ok (.getfield 42, 3) := by decide +kernel
theorem dX11_easy_17 : decode cX11_easy 17 = .ok (.getfield 139, 3) := by decide +kernel
theorem dX11_easy_20 : decode cX11_easy 20 = .ok (.getfield 235, 3) := by decide +kernel
theorem dX11_easy_23 : decode cX11_easy 23 = .ok (.if_icmp .ge 34, 3) := by decide +kernel
theorem dX11_easy_26 : decode cX11_easy 26 = .ok (.aload_n 0, 1) := by decide +kernel
theorem dX11_easy_27 : decode cX11_easy 27 = .ok (.getfield 42, 3) := by decide +kernel
theorem dX11_easy_30 : decode cX11_easy 30 = .ok (.aload_n 0, 1) := by decide +kernel
theorem dX11_easy_31 : decode cX11_easy 31 = .ok (.getfield 42, 3) := by decide +kernel
theorem dX11_easy_34 : decode cX11_easy 34 = .ok (.iload_n 2, 1) := by decide +kernel
theorem dX11_easy_35 : decode cX11_easy 35 = .ok (.iload_n 3, 1) := by decide +kernel
theorem dX11_easy_36 : decode cX11_easy 36 = .ok (.invokevirtual 213, 3) := by decide +kernel
theorem dX11_easy_39 : decode cX11_easy 39 = .ok (.invokevirtual 241, 3) := by decide +kernel
theorem dX11_easy_42 : decode cX11_easy 42 = .ok (.ifCond .eq 9, 3) := by decide +kernel
theorem dX11_easy_45 : decode cX11_easy 45 = .ok (.iload_n 1, 1) := by decide +kernel
theorem dX11_easy_46 : decode cX11_easy 46 = .ok (.iconst 1, 1) := by decide +kernel
theorem dX11_easy_47 : decode cX11_easy 47 = .ok (.iload_n 3, 1) := by decide +kernel
theorem dX11_easy_48 : decode cX11_easy 48 = .ok (.ishl, 1) := by decide +kernel
theorem dX11_easy_49 : decode cX11_easy 49 = .ok (.ior, 1) := by decide +kernel
theorem dX11_easy_50 : decode cX11_easy 50 = .ok (.istore_n 1, 1) := by decide +kernel
theorem dX11_easy_51 : decode cX11_easy 51 = .ok (.iinc 3 1, 3) := by decide +kernel
theorem dX11_easy_54 : decode cX11_easy 54 = .ok (.goto (-42), 3) := by decide +kernel
theorem dX11_easy_57 : decode cX11_easy 57 = .ok (.iload_n 1, 1) := by decide +kernel
theorem dX11_easy_58 : decode cX11_easy 58 = .ok (.ireturn, 1) := by decide +kernel
theorem dX11_changed_0 : decode cX11_changed 0 = .ok (.aload_n 0, 1) := by decide +kernel
theorem dX11_changed_1 : decode cX11_changed 1 = .ok (.iload_n 1, 1) := by decide +kernel
theorem dX11_changed_2 : decode cX11_changed 2 = .ok (.invokevirtual 210, 3) := by decide +kernel
theorem dX11_changed_5 : decode cX11_changed 5 = .ok (.ifCond .ne 5, 3) := by decide +kernel
theorem dX11_changed_8 : decode cX11_changed 8 = .ok (.iconst (-1), 1) := by decide +kernel
theorem dX11_changed_9 : decode cX11_changed 9 = .ok (.ireturn, 1) := by decide +kernel
theorem dX11_changed_10 : decode cX11_changed 10 = .ok (.aload_n 0, 1) := by decide +kernel
theorem dX11_changed_11 : decode cX11_changed 11 = .ok (.getfield 42, 3) := by decide +kernel
theorem dX11_changed_14 : decode cX11_changed 14 = .ok (.getfield 129, 3) := by decide +kernel
theorem dX11_changed_17 : decode cX11_changed 17 = .ok (.getfield 175, 3) := by decide +kernel
theorem dX11_changed_20 : decode cX11_changed 20 = .ok (.istore_n 2, 1) := by decide +kernel
theorem dX11_changed_21 : decode cX11_changed 21 = .ok (.aload_n 0, 1) := by decide +kernel
theorem dX11_changed_22 : decode cX11_changed 22 = .ok (.getfield 42, 3) := by decide +kernel
theorem dX11_changed_25 : decode cX11_changed 25 = .ok (.iload_n 1, 1) := by decide +kernel
theorem dX11_changed_26 : decode cX11_changed 26 = .ok (.iload_n 2, 1) := by decide +kernel
theorem dX11_changed_27 : decode cX11_changed 27 = .ok (.invokevirtual 213, 3) := by decide +kernel
theorem dX11_changed_30 : decode cX11_changed 30 = .ok (.istore_n 3, 1) := by decide +kernel
theorem dX11_changed_31 : decode cX11_changed 31 = .ok (.aload_n 0, 1) := by decide +kernel
theorem dX11_changed_32 : decode cX11_changed 32 = .ok (.getfield 42, 3) := by decide +kernel
theorem dX11_changed_35 : decode cX11_changed 35 = .ok (.iload_n 3, 1) := by decide +kernel
theorem dX11_changed_36 : decode cX11_changed 36 = .ok (.invokevirtual 241, 3) := by decide +kernel
theorem dX11_changed_39 : decode cX11_changed 39 = .ok (.ifCond .eq 5, 3) := by decide +kernel
theorem dX11_changed_42 : decode cX11_changed 42 = .ok (.iconst (-1), 1) := by decide +kernel
theorem dX11_changed_43 : decode cX11_changed 43 = .ok (.ireturn, 1) := by decide +kernel
theorem dX11_changed_44 : decode cX11_changed 44 = .ok (.iload_n 1, 1) := by decide +kernel
theorem dX11_changed_45 : decode cX11_changed 45 = .ok (.aload_n 0, 1) := by decide +kernel
theorem dX11_changed_46 : decode cX11_changed 46 = .ok (.getfield 42, 3) := by decide +kernel
theorem dX11_changed_49 : decode cX11_changed 49 = .ok (.getfield 129, 3) := by decide +kernel
theorem dX11_changed_52 : decode cX11_changed 52 = .ok (.getfield 145, 3) := by decide +kernel
theorem dX11_changed_55 : decode cX11_changed 55 = .ok (.iconst (-1), 1) := by decide +kernel
theorem dX11_changed_56 : decode cX11_changed 56 = .ok (.ixor, 1) := by decide +kernel
theorem dX11_changed_57 : decode cX11_changed 57 = .ok (.iand, 1) := by decide +kernel
theorem dX11_changed_58 : decode cX11_changed 58 = .ok (.istore 4, 2) := by decide +kernel
theorem dX11_changed_60 : decode cX11_changed 60 = .ok (.iconst 0, 1) := by decide +kernel
theorem dX11_changed_61 : decode cX11_changed 61 = .ok (.istore 5, 2) := by decide +kernel
theorem dX11_changed_63 : decode cX11_changed 63 = .ok (.iconst 0, 1) := by decide +kernel
theorem dX11_changed_64 : decode cX11_changed 64 = .ok (.istore 6, 2) := by decide +kernel
theorem dX11_changed_66 : decode cX11_changed 66 = .ok (.iload 6, 2) := by decide +kernel
theorem dX11_changed_68 : decode cX11_changed 68 = .ok (.aload_n 0, 1) := by decide +kernel
theorem dX11_changed_69 : decode cX11_changed 69 = .ok (.getfield 42, 3) := by decide +kernel
theorem dX11_changed_72 : decode cX11_changed 72 = .ok (.getfield 139, 3) := by decide +kernel
theorem dX11_changed_75 : decode cX11_changed 75 = .ok (.getfield 244, 3) := by decide +kernel
theorem dX11_changed_78 : decode cX11_changed 78 = .ok (.if_icmp .ge 53, 3) := by decide +kernel
theorem dX11_changed_81 : decode cX11_changed 81 = .ok (.iload 4, 2) := by decide +kernel
theorem dX11_changed_83 : decode cX11_changed 83 = .ok (.iload 6, 2) := by decide +kernel
theorem dX11_changed_85 : decode cX11_changed 85 = .ok (.invokestatic 135, 3) := by decide +kernel
theorem dX11_changed_88 : decode cX11_changed 88 = .ok (.iconst 1, 1) := by decide +kernel
theorem dX11_changed_89 : decode cX11_changed 89 = .ok (.if_icmp .ne 36, 3) := by decide +kernel
theorem dX11_changed_92 : decode cX11_changed 92 = .ok (.aload_n 0, 1) := by decide +kernel
theorem dX11_changed_93 : decode cX11_changed 93 = .ok (.getfield 42, 3) := by decide +kernel
theorem dX11_changed_96 : decode cX11_changed 96 = .ok (.iload_n 3, 1) := by decide +kernel
theorem dX11_changed_97 : decode cX11_changed 97 = .ok (.iconst 2, 1) := by decide +kernel
theorem dX11_changed_98 : decode cX11_changed 98 = .ok (.aload_n 0, 1) := by decide +kernel
theorem dX11_changed_99 : decode cX11_changed 99 = .ok (.getfield 42, 3) := by decide +kernel
theorem dX11_changed_102 : decode cX11_changed 102 = .ok (.iload 6, 2) := by decide +kernel
theorem dX11_changed_104 : decode cX11_changed 104 = .ok (.iload_n 2, 1) := by decide +kernel
theorem dX11_changed_105 : decode cX11_changed 105 = .ok (.invokevirtual 169, 3) := by decide +kernel
theorem dX11_changed_108 : decode cX11_changed 108 = .ok (.imul, 1) := by decide +kernel
theorem dX11_changed_109 : decode cX11_changed 109 = .ok (.isub, 1) := by decide +kernel
theorem dX11_changed_110 : decode cX11_changed 110 = .ok (.invokevirtual 241, 3) := by decide +kernel
theorem dX11_changed_113 : decode cX11_changed 113 = .ok (.ifCond .eq 12, 3) := by decide +kernel
theorem dX11_changed_116 : decode cX11_changed 116 = .ok (.iload 5, 2) := by decide +kernel
theorem dX11_changed_118 : decode cX11_changed 118 = .ok (.iconst 1, 1) := by decide +kernel
theorem dX11_changed_119 : decode cX11_changed 119 = .ok (.iload 6, 2) := by decide +kernel
theorem dX11_changed_121 : decode cX11_changed 121 = .ok (.ishl, 1) := by decide +kernel
theorem dX11_changed_122 : decode cX11_changed 122 = .ok (.ior, 1) := by decide +kernel
theorem dX11_changed_123 : decode cX11_changed 123 = .ok (.istore 5, 2) := by decide +kernel
theorem dX11_changed_125 : decode cX11_changed 125 = .ok (.iinc 6 1, 3) := by decide +kernel
theorem dX11_changed_128 : decode cX11_changed 128 = .ok (.goto (-62), 3) := by decide +kernel
theorem dX11_changed_131 : decode cX11_changed 131 = .ok (.iload 5, 2) := by decide +kernel
theorem dX11_changed_133 : decode cX11_changed 133 = .ok (.ireturn, 1) := by decide +kernel
theorem dX11_fits_0 : decode cX11_fits 0 = .ok (.aload_n 0, 1) := by decide +kernel
theorem dX11_fits_1 : decode cX11_fits 1 = .ok (.getfield 12, 3) := by decide +kernel
theorem dX11_fits_4 : decode cX11_fits 4 = .ok (.getfield 88, 3) := by decide +kernel
theorem dX11_fits_7 : decode cX11_fits 7 = .ok (.istore_n 2, 1) := by decide +kernel
theorem dX11_fits_8 : decode cX11_fits 8 = .ok (.aload_n 0, 1) := by decide +kernel
theorem dX11_fits_9 : decode cX11_fits 9 = .ok (.getfield 12, 3) := by decide +kernel
theorem dX11_fits_12 : decode cX11_fits 12 = .ok (.iconst 0, 1) := by decide +kernel
theorem dX11_fits_13 : decode cX11_fits 13 = .ok (.putfield 88, 3) := by decide +kernel
theorem dX11_fits_16 : decode cX11_fits 16 = .ok (.aload_n 0, 1) := by decide +kernel
theorem dX11_fits_17 : decode cX11_fits 17 = .ok (.getfield 42, 3) := by decide +kernel
theorem dX11_fits_20 : decode cX11_fits 20 = .ok (.iload_n 1, 1) := by decide +kernel
theorem dX11_fits_21 : decode cX11_fits 21 = .ok (.invokevirtual 122, 3) := by decide +kernel
theorem dX11_fits_24 : decode cX11_fits 24 = .ok (.ifCond .eq 24, 3) := by decide +kernel
theorem dX11_fits_27 : decode cX11_fits 27 = .ok (.aload_n 0, 1) := by decide +kernel
theorem dX11_fits_28 : decode cX11_fits 28 = .ok (.getfield 42, 3) := by decide +kernel
theorem dX11_fits_31 : decode cX11_fits 31 = .ok (.getfield 139, 3) := by decide +kernel
theorem dX11_fits_34 : decode cX11_fits 34 = .ok (.getfield 235, 3) := by decide +kernel
theorem dX11_fits_37 : decode cX11_fits 37 = .ok (.ifCond .eq 11, 3) := by decide +kernel
theorem dX11_fits_40 : decode cX11_fits 40 = .ok (.aload_n 0, 1) := by decide +kernel
theorem dX11_fits_41 : decode cX11_fits 41 = .ok (.iload_n 2, 1) := by decide +kernel
theorem dX11_fits_42 : decode cX11_fits 42 = .ok (.invokevirtual 247, 3) := by decide +kernel
theorem dX11_fits_45 : decode cX11_fits 45 = .ok (.ifCond .ne 5, 3) := by decide +kernel
theorem dX11_fits_48 : decode cX11_fits 48 = .ok (.iconst (-1), 1) := by decide +kernel
theorem dX11_fits_49 : decode cX11_fits 49 = .ok (.ireturn, 1) := by decide +kernel
theorem dX11_fits_50 : decode cX11_fits 50 = .ok (.iconst 0, 1) := by decide +kernel
theorem dX11_fits_51 : decode cX11_fits 51 = .ok (.istore_n 3, 1) := by decide +kernel
theorem dX11_fits_52 : decode cX11_fits 52 = .ok (.bipush (-101), 2) := by decide +kernel
theorem dX11_fits_54 : decode cX11_fits 54 = .ok (.istore 4, 2) := by decide +kernel
theorem dX11_fits_56 : decode cX11_fits 56 = .ok (.bipush (-101), 2) := by decide +kernel
theorem dX11_fits_58 : decode cX11_fits 58 = .ok (.istore 5, 2) := by decide +kernel
theorem dX11_fits_60 : decode cX11_fits 60 = .ok (.bipush (-9), 2) := by decide +kernel
theorem dX11_fits_62 : decode cX11_fits 62 = .ok (.istore 6, 2) := by decide +kernel
theorem dX11_fits_64 : decode cX11_fits 64 = .ok (.iload 6, 2) := by decide +kernel
theorem dX11_fits_66 : decode cX11_fits 66 = .ok (.bipush 9, 2) := by decide +kernel
theorem dX11_fits_68 : decode cX11_fits 68 = .ok (.if_icmp .gt 40, 3) := by decide +kernel
theorem dX11_fits_71 : decode cX11_fits 71 = .ok (.aload_n 0, 1) := by decide +kernel
theorem dX11_fits_72 : decode cX11_fits 72 = .ok (.iload_n 1, 1) := by decide +kernel
theorem dX11_fits_73 : decode cX11_fits 73 = .ok (.iload 6, 2) := by decide +kernel
theorem dX11_fits_75 : decode cX11_fits 75 = .ok (.iload_n 2, 1) := by decide +kernel
theorem dX11_fits_76 : decode cX11_fits 76 = .ok (.invokevirtual 250, 3) := by decide +kernel
theorem dX11_fits_79 : decode cX11_fits 79 = .ok (.ifCond .eq 23, 3) := by decide +kernel
theorem dX11_fits_82 : decode cX11_fits 82 = .ok (.iload_n 3, 1) := by decide +kernel
theorem dX11_fits_83 : decode cX11_fits 83 = .ok (.ifCond .ne 8, 3) := by decide +kernel
theorem dX11_fits_86 : decode cX11_fits 86 = .ok (.iload 6, 2) := by decide +kernel
theorem dX11_fits_88 : decode cX11_fits 88 = .ok (.goto 5, 3) := by decide +kernel
theorem dX11_fits_91 : decode cX11_fits 91 = .ok (.iload 4, 2) := by decide +kernel
theorem dX11_fits_93 : decode cX11_fits 93 = .ok (.istore 4, 2) := by decide +kernel
theorem dX11_fits_95 : decode cX11_fits 95 = .ok (.iload 6, 2) := by decide +kernel
theorem dX11_fits_97 : decode cX11_fits 97 = .ok (.istore 5, 2) := by decide +kernel
theorem dX11_fits_99 : decode cX11_fits 99 = .ok (.iinc 3 1, 3) := by decide +kernel
theorem dX11_fits_102 : decode cX11_fits 102 = .ok (.iinc 6 1, 3) := by decide +kernel
theorem dX11_fits_105 : decode cX11_fits 105 = .ok (.goto (-41), 3) := by decide +kernel
theorem dX11_fits_108 : decode cX11_fits 108 = .ok (.iload_n 3, 1) := by decide +kernel
theorem dX11_fits_109 : decode cX11_fits 109 = .ok (.ifCond .le 15, 3) := by decide +kernel
theorem dX11_fits_112 : decode cX11_fits 112 = .ok (.aload_n 0, 1) := by decide +kernel
theorem dX11_fits_113 : decode cX11_fits 113 = .ok (.iload 4, 2) := by decide +kernel
theorem dX11_fits_115 : decode cX11_fits 115 = .ok (.putfield 68, 3) := by decide +kernel
theorem dX11_fits_118 : decode cX11_fits 118 = .ok (.aload_n 0, 1) := by decide +kernel
theorem dX11_fits_119 : decode cX11_fits 119 = .ok (.iload 5, 2) := by decide +kernel
theorem dX11_fits_121 : decode cX11_fits 121 = .ok (.putfield 72, 3) := by decide +kernel
theorem dX11_fits_124 : decode cX11_fits 124 = .ok (.iload_n 3, 1) := by decide +kernel
theorem dX11_fits_125 : decode cX11_fits 125 = .ok (.ireturn, 1) := by decide +kernel
theorem dX11_fit_0 : decode cX11_fit 0 = .ok (.iload_n 1, 1) := by decide +kernel
theorem dX11_fit_1 : decode cX11_fit 1 = .ok (.lookupswitch 37 #[(0, 27), (1, 32)], 27) := by decide +kernel
theorem dX11_fit_28 : decode cX11_fit 28 = .ok (.aload_n 0, 1) := by decide +kernel
theorem dX11_fit_29 : decode cX11_fit 29 = .ok (.getfield 68, 3) := by decide +kernel
theorem dX11_fit_32 : decode cX11_fit 32 = .ok (.ireturn, 1) := by decide +kernel
theorem dX11_fit_33 : decode cX11_fit 33 = .ok (.aload_n 0, 1) := by decide +kernel
theorem dX11_fit_34 : decode cX11_fit 34 = .ok (.getfield 72, 3) := by decide +kernel
theorem dX11_fit_37 : decode cX11_fit 37 = .ok (.ireturn, 1) := by decide +kernel
theorem dX11_fit_38 : decode cX11_fit 38 = .ok (.bipush (-101), 2) := by decide +kernel
theorem dX11_fit_40 : decode cX11_fit 40 = .ok (.ireturn, 1) := by decide +kernel
theorem dX11_couples_0 : decode cX11_couples 0 = .ok (.aload_n 0, 1) := by decide +kernel
theorem dX11_couples_1 : decode cX11_couples 1 = .ok (.getfield 75, 3) := by decide +kernel
theorem dX11_couples_4 : decode cX11_couples 4 = .ok (.iconst (-1), 1) := by decide +kernel
theorem dX11_couples_5 : decode cX11_couples 5 = .ok (.invokestatic 79, 3) := by decide +kernel
theorem dX11_couples_8 : decode cX11_couples 8 = .ok (.aload_n 0, 1) := by decide +kernel
theorem dX11_couples_9 : decode cX11_couples 9 = .ok (.getfield 42, 3) := by decide +kernel
theorem dX11_couples_12 : decode cX11_couples 12 = .ok (.getfield 139, 3) := by decide +kernel
theorem dX11_couples_15 : decode cX11_couples 15 = .ok (.getfield 235, 3) := by decide +kernel
theorem dX11_couples_18 : decode cX11_couples 18 = .ok (.ifCond .ne 7, 3) := by decide +kernel
theorem dX11_couples_21 : decode cX11_couples 21 = .ok (.iconst 0, 1) := by decide +kernel
theorem dX11_couples_22 : decode cX11_couples 22 = .ok (.goto 18, 3) := by decide +kernel
theorem dX11_couples_25 : decode cX11_couples 25 = .ok (.aload_n 0, 1) := by decide +kernel
theorem dX11_couples_26 : decode cX11_couples 26 = .ok (.getfield 56, 3) := by decide +kernel
theorem dX11_couples_29 : decode cX11_couples 29 = .ok (.aload_n 0, 1) := by decide +kernel
theorem dX11_couples_30 : decode cX11_couples 30 = .ok (.getfield 42, 3) := by decide +kernel
theorem dX11_couples_33 : decode cX11_couples 33 = .ok (.aload_n 0, 1) := by decide +kernel
theorem dX11_couples_34 : decode cX11_couples 34 = .ok (.getfield 75, 3) := by decide +kernel
theorem dX11_couples_37 : decode cX11_couples 37 = .ok (.invokevirtual 253, 3) := by decide +kernel
theorem dX11_couples_40 : decode cX11_couples 40 = .ok (.ireturn, 1) := by decide +kernel
theorem dX11_couple_0 : decode cX11_couple 0 = .ok (.aload_n 0, 1) := by decide +kernel
theorem dX11_couple_1 : decode cX11_couple 1 = .ok (.getfield 42, 3) := by decide +kernel
theorem dX11_couple_4 : decode cX11_couple 4 = .ok (.iload_n 1, 1) := by decide +kernel
theorem dX11_couple_5 : decode cX11_couple 5 = .ok (.invokevirtual 122, 3) := by decide +kernel
theorem dX11_couple_8 : decode cX11_couple 8 = .ok (.ifCond .eq 12, 3) := by decide +kernel
theorem dX11_couple_11 : decode cX11_couple 11 = .ok (.aload_n 0, 1) := by decide +kernel
theorem dX11_couple_12 : decode cX11_couple 12 = .ok (.getfield 75, 3) := by decide +kernel
theorem dX11_couple_15 : decode cX11_couple 15 = .ok (.iload_n 1, 1) := by decide +kernel
theorem dX11_couple_16 : decode cX11_couple 16 = .ok (.iaload, 1) := by decide +kernel
theorem dX11_couple_17 : decode cX11_couple 17 = .ok (.goto 4, 3) := by decide +kernel
theorem dX11_couple_20 : decode cX11_couple 20 = .ok (.iconst (-1), 1) := by decide +kernel
theorem dX11_couple_21 : decode cX11_couple 21 = .ok (.ireturn, 1) := by decide +kernel
