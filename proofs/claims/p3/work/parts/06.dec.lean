theorem dX11_bit_0 : decode cX11_bit 0 = .ok (.iload_n 0, 1) := by decide +kernel
theorem dX11_bit_1 : decode cX11_bit 1 = .ok (.iload_n 1, 1) := by decide +kernel
theorem dX11_bit_2 : decode cX11_bit 2 = .ok (.ishr, 1) := by decide +kernel
theorem dX11_bit_3 : decode cX11_bit 3 = .ok (.iconst 1, 1) := by decide +kernel
theorem dX11_bit_4 : decode cX11_bit 4 = .ok (.iand, 1) := by decide +kernel
theorem dX11_bit_5 : decode cX11_bit 5 = .ok (.ireturn, 1) := by decide +kernel
theorem dJ6_bitCount_0f7a4_0 : decode cJ6_bitCount_0f7a4 0 = .ok (.iload_n 0, 1) := by decide +kernel
theorem dJ6_bitCount_0f7a4_1 : decode cJ6_bitCount_0f7a4 1 = .ok (.iload_n 0, 1) := by decide +kernel
theorem dJ6_bitCount_0f7a4_2 : decode cJ6_bitCount_0f7a4 2 = .ok (.iconst 1, 1) := by decide +kernel
theorem dJ6_bitCount_0f7a4_3 : decode cJ6_bitCount_0f7a4 3 = .ok (.iushr, 1) := by decide +kernel
theorem dJ6_bitCount_0f7a4_4 : decode cJ6_bitCount_0f7a4 4 = .ok (.ldc_w 265, 3) := by decide +kernel
theorem dJ6_bitCount_0f7a4_7 : decode cJ6_bitCount_0f7a4 7 = .ok (.iand, 1) := by decide +kernel
theorem dJ6_bitCount_0f7a4_8 : decode cJ6_bitCount_0f7a4 8 = .ok (.isub, 1) := by decide +kernel
theorem dJ6_bitCount_0f7a4_9 : decode cJ6_bitCount_0f7a4 9 = .ok (.istore_n 0, 1) := by decide +kernel
theorem dJ6_bitCount_0f7a4_10 : decode cJ6_bitCount_0f7a4 10 = .ok (.iload_n 0, 1) := by decide +kernel
theorem dJ6_bitCount_0f7a4_11 : decode cJ6_bitCount_0f7a4 11 = .ok (.ldc_w 266, 3) := by decide +kernel
theorem dJ6_bitCount_0f7a4_14 : decode cJ6_bitCount_0f7a4 14 = .ok (.iand, 1) := by decide +kernel
theorem dJ6_bitCount_0f7a4_15 : decode cJ6_bitCount_0f7a4 15 = .ok (.iload_n 0, 1) := by decide +kernel
theorem dJ6_bitCount_0f7a4_16 : decode cJ6_bitCount_0f7a4 16 = .ok (.iconst 2, 1) := by decide +kernel
theorem dJ6_bitCount_0f7a4_17 : decode cJ6_bitCount_0f7a4 17 = .ok (.iushr, 1) := by decide +kernel
theorem dJ6_bitCount_0f7a4_18 : decode cJ6_bitCount_0f7a4 18 = .ok (.ldc_w 266, 3) := by decide +kernel
theorem dJ6_bitCount_0f7a4_21 : decode cJ6_bitCount_0f7a4 21 = .ok (.iand, 1) := by decide +kernel
theorem dJ6_bitCount_0f7a4_22 : decode cJ6_bitCount_0f7a4 22 = .ok (.iadd, 1) := by decide +kernel
theorem dJ6_bitCount_0f7a4_23 : decode cJ6_bitCount_0f7a4 23 = .ok (.istore_n 0, 1) := by decide +kernel
theorem dJ6_bitCount_0f7a4_24 : decode cJ6_bitCount_0f7a4 24 = .ok (.iload_n 0, 1) := by decide +kernel
theorem dJ6_bitCount_0f7a4_25 : decode cJ6_bitCount_0f7a4 25 = .ok (.iload_n 0, 1) := by decide +kernel
theorem dJ6_bitCount_0f7a4_26 : decode cJ6_bitCount_0f7a4 26 = .ok (.iconst 4, 1) := by decide +kernel
theorem dJ6_bitCount_0f7a4_27 : decode cJ6_bitCount_0f7a4 27 = .ok (.iushr, 1) := by decide +kernel
theorem dJ6_bitCount_0f7a4_28 : decode cJ6_bitCount_0f7a4 28 = .ok (.iadd, 1) := by decide +kernel
theorem dJ6_bitCount_0f7a4_29 : decode cJ6_bitCount_0f7a4 29 = .ok (.ldc_w 267, 3) := by decide +kernel
theorem dJ6_bitCount_0f7a4_32 : decode cJ6_bitCount_0f7a4 32 = .ok (.iand, 1) := by decide +kernel
theorem dJ6_bitCount_0f7a4_33 : decode cJ6_bitCount_0f7a4 33 = .ok (.istore_n 0, 1) := by decide +kernel
theorem dJ6_bitCount_0f7a4_34 : decode cJ6_bitCount_0f7a4 34 = .ok (.iload_n 0, 1) := by decide +kernel
theorem dJ6_bitCount_0f7a4_35 : decode cJ6_bitCount_0f7a4 35 = .ok (.iload_n 0, 1) := by decide +kernel
theorem dJ6_bitCount_0f7a4_36 : decode cJ6_bitCount_0f7a4 36 = .ok (.bipush 8, 2) := by decide +kernel
theorem dJ6_bitCount_0f7a4_38 : decode cJ6_bitCount_0f7a4 38 = .ok (.iushr, 1) := by decide +kernel
theorem dJ6_bitCount_0f7a4_39 : decode cJ6_bitCount_0f7a4 39 = .ok (.iadd, 1) := by decide +kernel
theorem dJ6_bitCount_0f7a4_40 : decode cJ6_bitCount_0f7a4 40 = .ok (.istore_n 0, 1) := by decide +kernel
theorem dJ6_bitCount_0f7a4_41 : decode cJ6_bitCount_0f7a4 41 = .ok (.iload_n 0, 1) := by decide +kernel
theorem dJ6_bitCount_0f7a4_42 : decode cJ6_bitCount_0f7a4 42 = .ok (.iload_n 0, 1) := by decide +kernel
theorem dJ6_bitCount_0f7a4_43 : decode cJ6_bitCount_0f7a4 43 = .ok (.bipush 16, 2) := by decide +kernel
theorem dJ6_bitCount_0f7a4_45 : decode cJ6_bitCount_0f7a4 45 = .ok (.iushr, 1) := by decide +kernel
theorem dJ6_bitCount_0f7a4_46 : decode cJ6_bitCount_0f7a4 46 = .ok (.iadd, 1) := by decide +kernel
theorem dJ6_bitCount_0f7a4_47 : decode cJ6_bitCount_0f7a4 47 = .ok (.istore_n 0, 1) := by decide +kernel
theorem dJ6_bitCount_0f7a4_48 : decode cJ6_bitCount_0f7a4 48 = .ok (.iload_n 0, 1) := by decide +kernel
theorem dJ6_bitCount_0f7a4_49 : decode cJ6_bitCount_0f7a4 49 = .ok (.bipush 63, 2) := by decide +kernel
theorem dJ6_bitCount_0f7a4_51 : decode cJ6_bitCount_0f7a4 51 = .ok (.iand, 1) := by decide +kernel
theorem dJ6_bitCount_0f7a4_52 : decode cJ6_bitCount_0f7a4 52 = .ok (.ireturn, 1) := by decide +kernel
theorem dJ7_fill_53178_0 : decode cJ7_fill_53178 0 = .ok (.iconst 0, 1) := by decide +kernel
theorem dJ7_fill_53178_1 : decode cJ7_fill_53178 1 = .ok (.istore_n 2, 1) := by decide +kernel
theorem dJ7_fill_53178_2 : decode cJ7_fill_53178 2 = .ok (.aload_n 0, 1) := by decide +kernel
theorem dJ7_fill_53178_3 : decode cJ7_fill_53178 3 = .ok (.arraylength, 1) := by decide +kernel
theorem dJ7_fill_53178_4 : decode cJ7_fill_53178 4 = .ok (.istore_n 3, 1) := by decide +kernel
theorem dJ7_fill_53178_5 : decode cJ7_fill_53178 5 = .ok (.iload_n 2, 1) := by decide +kernel
theorem dJ7_fill_53178_6 : decode cJ7_fill_53178 6 = .ok (.iload_n 3, 1) := by decide +kernel
theorem dJ7_fill_53178_7 : decode cJ7_fill_53178 7 = .ok (.if_icmp .ge 13, 3) := by decide +kernel
theorem dJ7_fill_53178_10 : decode cJ7_fill_53178 10 = .ok (.aload_n 0, 1) := by decide +kernel
theorem dJ7_fill_53178_11 : decode cJ7_fill_53178 11 = .ok (.iload_n 2, 1) := by decide +kernel
theorem dJ7_fill_53178_12 : decode cJ7_fill_53178 12 = .ok (.iload_n 1, 1) := by decide +kernel
theorem dJ7_fill_53178_13 : decode cJ7_fill_53178 13 = .ok (.iastore, 1) := by decide +kernel
theorem dJ7_fill_53178_14 : decode cJ7_fill_53178 14 = .ok (.iinc 2 1, 3) := by decide +kernel
theorem dJ7_fill_53178_17 : decode cJ7_fill_53178 17 = .ok (.goto (-12), 3) := by decide +kernel
theorem dJ7_fill_53178_20 : decode cJ7_fill_53178 20 = .ok (.return_, 1) := by decide +kernel
theorem dX2_everyone_0 : decode cX2_everyone 0 = .ok (.iconst 1, 1) := by decide +kernel
theorem dX2_everyone_1 : decode cX2_everyone 1 = .ok (.aload_n 0, 1) := by decide +kernel
theorem dX2_everyone_2 : decode cX2_everyone 2 = .ok (.getfield 44, 3) := by decide +kernel
theorem dX2_everyone_5 : decode cX2_everyone 5 = .ok (.ishl, 1) := by decide +kernel
theorem dX2_everyone_6 : decode cX2_everyone 6 = .ok (.iconst 1, 1) := by decide +kernel
theorem dX2_everyone_7 : decode cX2_everyone 7 = .ok (.isub, 1) := by decide +kernel
theorem dX2_everyone_8 : decode cX2_everyone 8 = .ok (.ireturn, 1) := by decide +kernel
theorem dX2_askNamed_0 : decode cX2_askNamed 0 = .ok (.iconst 0, 1) := by decide +kernel
theorem dX2_askNamed_1 : decode cX2_askNamed 1 = .ok (.istore_n 3, 1) := by decide +kernel
theorem dX2_askNamed_2 : decode cX2_askNamed 2 = .ok (.iload_n 3, 1) := by decide +kernel
theorem dX2_askNamed_3 : decode cX2_askNamed 3 = .ok (.aload_n 0, 1) := by decide +kernel
theorem dX2_askNamed_4 : decode cX2_askNamed 4 = .ok (.getfield 41, 3) := by decide +kernel
theorem dX2_askNamed_7 : decode cX2_askNamed 7 = .ok (.if_icmp .ge 22, 3) := by decide +kernel
theorem dX2_askNamed_10 : decode cX2_askNamed 10 = .ok (.aload_n 0, 1) := by decide +kernel
theorem dX2_askNamed_11 : decode cX2_askNamed 11 = .ok (.getfield 24, 3) := by decide +kernel
theorem dX2_askNamed_14 : decode cX2_askNamed 14 = .ok (.iload_n 3, 1) := by decide +kernel
theorem dX2_askNamed_15 : decode cX2_askNamed 15 = .ok (.laload, 1) := by decide +kernel
theorem dX2_askNamed_16 : decode cX2_askNamed 16 = .ok (.lload_n 1, 1) := by decide +kernel
theorem dX2_askNamed_17 : decode cX2_askNamed 17 = .ok (.lcmp, 1) := by decide +kernel
theorem dX2_askNamed_18 : decode cX2_askNamed 18 = .ok (.ifCond .ne 5, 3) := by decide +kernel
theorem dX2_askNamed_21 : decode cX2_askNamed 21 = .ok (.iload_n 3, 1) := by decide +kernel
theorem dX2_askNamed_22 : decode cX2_askNamed 22 = .ok (.ireturn, 1) := by decide +kernel
theorem dX2_askNamed_23 : decode cX2_askNamed 23 = .ok (.iinc 3 1, 3) := by decide +kernel
theorem dX2_askNamed_26 : decode cX2_askNamed 26 = .ok (.goto (-24), 3) := by decide +kernel
theorem dX2_askNamed_29 : decode cX2_askNamed 29 = .ok (.iconst (-1), 1) := by decide +kernel
theorem dX2_askNamed_30 : decode cX2_askNamed 30 = .ok (.ireturn, 1) := by decide +kernel
theorem dX2_manNamed_0 : decode cX2_manNamed 0 = .ok (.iconst 0, 1) := by decide +kernel
theorem dX2_manNamed_1 : decode cX2_manNamed 1 = .ok (.istore_n 3, 1) := by decide +kernel
theorem dX2_manNamed_2 : decode cX2_manNamed 2 = .ok (.iload_n 3, 1) := by decide +kernel
theorem dX2_manNamed_3 : decode cX2_manNamed 3 = .ok (.aload_n 0, 1) := by decide +kernel
theorem dX2_manNamed_4 : decode cX2_manNamed 4 = .ok (.getfield 44, 3) := by decide +kernel
theorem dX2_manNamed_7 : decode cX2_manNamed 7 = .ok (.if_icmp .ge 22, 3) := by decide +kernel
theorem dX2_manNamed_10 : decode cX2_manNamed 10 = .ok (.aload_n 0, 1) := by decide +kernel
theorem dX2_manNamed_11 : decode cX2_manNamed 11 = .ok (.getfield 28, 3) := by decide +kernel
theorem dX2_manNamed_14 : decode cX2_manNamed 14 = .ok (.iload_n 3, 1) := by decide +kernel
theorem dX2_manNamed_15 : decode cX2_manNamed 15 = .ok (.laload, 1) := by decide +kernel
theorem dX2_manNamed_16 : decode cX2_manNamed 16 = .ok (.lload_n 1, 1) := by decide +kernel
theorem dX2_manNamed_17 : decode cX2_manNamed 17 = .ok (.lcmp, 1) := by decide +kernel
theorem dX2_manNamed_18 : decode cX2_manNamed 18 = .ok (.ifCond .ne 5, 3) := by decide +kernel
theorem dX2_manNamed_21 : decode cX2_manNamed 21 = .ok (.iload_n 3, 1) := by decide +kernel
theorem dX2_manNamed_22 : decode cX2_manNamed 22 = .ok (.ireturn, 1) := by decide +kernel
theorem dX2_manNamed_23 : decode cX2_manNamed 23 = .ok (.iinc 3 1, 3) := by decide +kernel
theorem dX2_manNamed_26 : decode cX2_manNamed 26 = .ok (.goto (-24), 3) := by decide +kernel
theorem dX2_manNamed_29 : decode cX2_manNamed 29 = .ok (.iconst (-1), 1) := by decide +kernel
theorem dX2_manNamed_30 : decode cX2_manNamed 30 = .ok (.ireturn, 1) := by decide +kernel
theorem dX10_hasMan_0 : decode cX10_hasMan 0 = .ok (.iload_n 1, 1) := by decide +kernel
theorem dX10_hasMan_1 : decode cX10_hasMan 1 = .ok (.ifCond .lt 18, 3) := by decide +kernel
theorem dX10_hasMan_4 : decode cX10_hasMan 4 = .ok (.iload_n 1, 1) := by decide +kernel
theorem dX10_hasMan_5 : decode cX10_hasMan 5 = .ok (.aload_n 0, 1) := by decide +kernel
theorem dX10_hasMan_6 : decode cX10_hasMan 6 = .ok (.getfield 12, 3) := by decide +kernel
theorem dX10_hasMan_9 : decode cX10_hasMan 9 = .ok (.getfield 49, 3) := by decide +kernel
theorem dX10_hasMan_12 : decode cX10_hasMan 12 = .ok (.if_icmp .ge 7, 3) := by decide +kernel
theorem dX10_hasMan_15 : decode cX10_hasMan 15 = .ok (.iconst 1, 1) := by decide +kernel
theorem dX10_hasMan_16 : decode cX10_hasMan 16 = .ok (.goto 4, 3) := by decide +kernel
theorem dX10_hasMan_19 : decode cX10_hasMan 19 = .ok (.iconst 0, 1) := by decide +kernel
theorem dX10_hasMan_20 : decode cX10_hasMan 20 = .ok (.ireturn, 1) := by decide +kernel
theorem dX10_hasAsk_0 : decode cX10_hasAsk 0 = .ok (.iload_n 1, 1) := by decide +kernel
theorem dX10_hasAsk_1 : decode cX10_hasAsk 1 = .ok (.ifCond .lt 18, 3) := by decide +kernel
theorem dX10_hasAsk_4 : decode cX10_hasAsk 4 = .ok (.iload_n 1, 1) := by decide +kernel
theorem dX10_hasAsk_5 : decode cX10_hasAsk 5 = .ok (.aload_n 0, 1) := by decide +kernel
theorem dX10_hasAsk_6 : decode cX10_hasAsk 6 = .ok (.getfield 12, 3) := by decide +kernel
theorem dX10_hasAsk_9 : decode cX10_hasAsk 9 = .ok (.getfield 52, 3) := by decide +kernel
theorem dX10_hasAsk_12 : decode cX10_hasAsk 12 = .ok (.if_icmp .ge 7, 3) := by decide +kernel
theorem dX10_hasAsk_15 : decode cX10_hasAsk 15 = .ok (.iconst 1, 1) := by decide +kernel
theorem dX10_hasAsk_16 : decode cX10_hasAsk 16 = .ok (.goto 4, 3) := by decide +kernel
theorem dX10_hasAsk_19 : decode cX10_hasAsk 19 = .ok (.iconst 0, 1) := by decide +kernel
theorem dX10_hasAsk_20 : decode cX10_hasAsk 20 = .ok (.ireturn, 1) := by decide +kernel
theorem dX10_hasSet_0 : decode cX10_hasSet 0 = .ok (.iload_n 1, 1) := by decide +kernel
theorem dX10_hasSet_1 : decode cX10_hasSet 1 = .ok (.aload_n 0, 1) := by decide +kernel
theorem dX10_hasSet_2 : decode cX10_hasSet 2 = .ok (.getfield 12, 3) := by decide +kernel
theorem dX10_hasSet_5 : decode cX10_hasSet 5 = .ok (.invokevirtual 55, 3) := by decide +kernel
theorem dX10_hasSet_8 : decode cX10_hasSet 8 = .ok (.iconst (-1), 1) := by decide +kernel
theorem dX10_hasSet_9 : decode cX10_hasSet 9 = .ok (.ixor, 1) := by decide +kernel
theorem dX10_hasSet_10 : decode cX10_hasSet 10 = .ok (.iand, 1) := by decide +kernel
theorem dX10_hasSet_11 : decode cX10_hasSet 11 = .ok (.ifCond .ne 7, 3) := by decide +kernel
theorem dX10_hasSet_14 : decode cX10_hasSet 14 = .ok (.iconst 1, 1) := by decide +kernel
theorem dX10_hasSet_15 : decode cX10_hasSet 15 = .ok (.goto 4, 3) := by decide +kernel
theorem dX10_hasSet_18 : decode cX10_hasSet 18 = .ok (.iconst 0, 1) := by decide +kernel
theorem dX10_hasSet_19 : decode cX10_hasSet 19 = .ok (.ireturn, 1) := by decide +kernel
theorem dX10_isLevel_0 : decode cX10_isLevel 0 = .ok (.iload_n 1, 1) := by decide +kernel
theorem dX10_isLevel_1 : decode cX10_isLevel 1 = .ok (.aload_n 0, 1) := by decide +kernel
theorem dX10_isLevel_2 : decode cX10_isLevel 2 = .ok (.getfield 12, 3) := by decide +kernel
theorem dX10_isLevel_5 : decode cX10_isLevel 5 = .ok (.getfield 97, 3) := by decide +kernel
theorem dX10_isLevel_8 : decode cX10_isLevel 8 = .ok (.if_icmp .gt 19, 3) := by decide +kernel
theorem dX10_isLevel_11 : decode cX10_isLevel 11 = .ok (.iload_n 1, 1) := by decide +kernel
theorem dX10_isLevel_12 : decode cX10_isLevel 12 = .ok (.aload_n 0, 1) := by decide +kernel
theorem dX10_isLevel_13 : decode cX10_isLevel 13 = .ok (.getfield 12, 3) := by decide +kernel
theorem dX10_isLevel_16 : decode cX10_isLevel 16 = .ok (.getfield 97, 3) := by decide +kernel
theorem dX10_isLevel_19 : decode cX10_isLevel 19 = .ok (.ineg, 1) := by decide +kernel
theorem dX10_isLevel_20 : decode cX10_isLevel 20 = .ok (.if_icmp .lt 7, 3) := by decide +kernel
theorem dX10_isLevel_23 : decode cX10_isLevel 23 = .ok (.iconst 1, 1) := by decide +kernel
theorem dX10_isLevel_24 : decode cX10_isLevel 24 = .ok (.goto 4, 3) := by decide +kernel
theorem dX10_isLevel_27 : decode cX10_isLevel 27 = .ok (.iconst 0, 1) := by decide +kernel
theorem dX10_isLevel_28 : decode cX10_isLevel 28 = .ok (.ireturn, 1) := by decide +kernel
theorem dX10_here_0 : decode cX10_here 0 = .ok (.aload_n 0, 1) := by decide +kernel
theorem dX10_here_1 : decode cX10_here 1 = .ok (.getfield 21, 3) := by decide +kernel
theorem dX10_here_4 : decode cX10_here 4 = .ok (.getfield 59, 3) := by decide +kernel
theorem dX10_here_7 : decode cX10_here 7 = .ok (.iconst 1, 1) := by decide +kernel
theorem dX10_here_8 : decode cX10_here 8 = .ok (.if_icmp .ne 13, 3) := by decide +kernel
theorem dX10_here_11 : decode cX10_here 11 = .ok (.aload_n 0, 1) := by decide +kernel
theorem dX10_here_12 : decode cX10_here 12 = .ok (.getfield 21, 3) := by decide +kernel
theorem dX10_here_15 : decode cX10_here 15 = .ok (.getfield 62, 3) := by decide +kernel
theorem dX10_here_18 : decode cX10_here 18 = .ok (.goto 20, 3) := by decide +kernel
theorem dX10_here_21 : decode cX10_here 21 = .ok (.aload_n 0, 1) := by decide +kernel
theorem dX10_here_22 : decode cX10_here 22 = .ok (.getfield 12, 3) := by decide +kernel
theorem dX10_here_25 : decode cX10_here 25 = .ok (.invokevirtual 55, 3) := by decide +kernel
theorem dX10_here_28 : decode cX10_here 28 = .ok (.aload_n 0, 1) := by decide +kernel
theorem dX10_here_29 : decode cX10_here 29 = .ok (.getfield 21, 3) := by decide +kernel
theorem dX10_here_32 : decode cX10_here 32 = .ok (.getfield 62, 3) := by decide +kernel
theorem dX10_here_35 : decode cX10_here 35 = .ok (.iconst (-1), 1) := by decide +kernel
theorem dX10_here_36 : decode cX10_here 36 = .ok (.ixor, 1) := by decide +kernel
theorem dX10_here_37 : decode cX10_here 37 = .ok (.iand, 1) := by decide +kernel
theorem dX10_here_38 : decode cX10_here 38 = .ok (.ireturn, 1) := by decide +kernel
theorem dX10_around_0 : decode cX10_around 0 = .ok (.aload_n 0, 1) := by decide +kernel
theorem dX10_around_1 : decode cX10_around 1 = .ok (.getfield 21, 3) := by decide +kernel
theorem dX10_around_4 : decode cX10_around 4 = .ok (.getfield 62, 3) := by decide +kernel
theorem dX10_around_7 : decode cX10_around 7 = .ok (.iload_n 1, 1) := by decide +kernel
theorem dX10_around_8 : decode cX10_around 8 = .ok (.invokestatic 65, 3) := by decide +kernel
theorem dX10_around_11 : decode cX10_around 11 = .ok (.iconst 1, 1) := by decide +kernel
theorem dX10_around_12 : decode cX10_around 12 = .ok (.if_icmp .ne 13, 3) := by decide +kernel
theorem dX10_around_15 : decode cX10_around 15 = .ok (.aload_n 0, 1) := by decide +kernel
theorem dX10_around_16 : decode cX10_around 16 = .ok (.getfield 21, 3) := by decide +kernel
theorem dX10_around_19 : decode cX10_around 19 = .ok (.getfield 62, 3) := by decide +kernel
theorem dX10_around_22 : decode cX10_around 22 = .ok (.goto 20, 3) := by decide +kernel
theorem dX10_around_25 : decode cX10_around 25 = .ok (.aload_n 0, 1) := by decide +kernel
theorem dX10_around_26 : decode cX10_around 26 = .ok (.getfield 12, 3) := by decide +kernel
theorem dX10_around_29 : decode cX10_around 29 = .ok (.invokevirtual 55, 3) := by decide +kernel
theorem dX10_around_32 : decode cX10_around 32 = .ok (.aload_n 0, 1) := by decide +kernel
theorem dX10_around_33 : decode cX10_around 33 = .ok (.getfield 21, 3) := by decide +kernel
theorem dX10_around_36 : decode cX10_around 36 = .ok (.getfield 62, 3) := by decide +kernel
theorem dX10_around_39 : decode cX10_around 39 = .ok (.iconst (-1), 1) := by decide +kernel
theorem dX10_around_40 : decode cX10_around 40 = .ok (.ixor, 1) := by decide +kernel
theorem dX10_around_41 : decode cX10_around 41 = .ok (.iand, 1) := by decide +kernel
theorem dX10_around_42 : decode cX10_around 42 = .ok (.ireturn, 1) := by decide +kernel
theorem dX10_partedKin_0 : decode cX10_partedKin 0 = .ok (.iconst 0, 1) := by decide +kernel
theorem dX10_partedKin_1 : decode cX10_partedKin 1 = .ok (.istore_n 1, 1) := by decide +kernel
theorem dX10_partedKin_2 : decode cX10_partedKin 2 = .ok (.iconst 0, 1) := by decide +kernel
theorem dX10_partedKin_3 : decode cX10_partedKin 3 = .ok (.istore_n 2, 1) := by decide +kernel
theorem dX10_partedKin_4 : decode cX10_partedKin 4 = .ok (.iload_n 2, 1) := by decide +kernel
theorem dX10_partedKin_5 : decode cX10_partedKin 5 = .ok (.aload_n 0, 1) := by decide +kernel
theorem dX10_partedKin_6 : decode cX10_partedKin 6 = .ok (.getfield 12, 3) := by decide +kernel
theorem dX10_partedKin_9 : decode cX10_partedKin 9 = .ok (.getfield 49, 3) := by decide +kernel
theorem dX10_partedKin_12 : decode cX10_partedKin 12 = .ok (.if_icmp .ge 49, 3) := by decide +kernel
theorem dX10_partedKin_15 : decode cX10_partedKin 15 = .ok (.aload_n 0, 1) := by decide +kernel
theorem dX10_partedKin_16 : decode cX10_partedKin 16 = .ok (.getfield 21, 3) := by decide +kernel
theorem dX10_partedKin_19 : decode cX10_partedKin 19 = .ok (.getfield 62, 3) := by decide +kernel
theorem dX10_partedKin_22 : decode cX10_partedKin 22 = .ok (.iload_n 2, 1) := by decide +kernel
theorem dX10_partedKin_23 : decode cX10_partedKin 23 = .ok (.invokestatic 65, 3) := by decide +kernel
theorem dX10_partedKin_26 : decode cX10_partedKin 26 = .ok (.iconst 1, 1) := by decide +kernel
theorem dX10_partedKin_27 : decode cX10_partedKin 27 = .ok (.if_icmp .ne 28, 3) := by decide +kernel
theorem dX10_partedKin_30 : decode cX10_partedKin 30 = .ok (.iload_n 1, 1) := by decide +kernel
theorem dX10_partedKin_31 : decode cX10_partedKin 31 = .ok (.aload_n 0, 1) := by decide +kernel
theorem dX10_partedKin_32 : decode cX10_partedKin 32 = .ok (.getfield 12, 3) := by decide +kernel
theorem dX10_partedKin_35 : decode cX10_partedKin 35 = .ok (.getfield 69, 3) := by decide +kernel
theorem dX10_partedKin_38 : decode cX10_partedKin 38 = .ok (.iload_n 2, 1) := by decide +kernel
theorem dX10_partedKin_39 : decode cX10_partedKin 39 = .ok (.iaload, 1) := by decide +kernel
theorem dX10_partedKin_40 : decode cX10_partedKin 40 = .ok (.aload_n 0, 1) := by decide +kernel
theorem dX10_partedKin_41 : decode cX10_partedKin 41 = .ok (.getfield 21, 3) := by decide +kernel
theorem dX10_partedKin_44 : decode cX10_partedKin 44 = .ok (.getfield 62, 3) := by decide +kernel
theorem dX10_partedKin_47 : decode cX10_partedKin 47 = .ok (.iconst (-1), 1) := by decide +kernel
theorem dX10_partedKin_48 : decode cX10_partedKin 48 = .ok (.ixor, 1) := by decide +kernel
theorem dX10_partedKin_49 : decode cX10_partedKin 49 = .ok (.iand, 1) := by decide +kernel
theorem dX10_partedKin_50 : decode cX10_partedKin 50 = .ok (.invokestatic 73, 3) := by decide +kernel
theorem dX10_partedKin_53 : decode cX10_partedKin 53 = .ok (.iadd, 1) := by decide +kernel
theorem dX10_partedKin_54 : decode cX10_partedKin 54 = .ok (.istore_n 1, 1) := by decide +kernel
theorem dX10_partedKin_55 : decode cX10_partedKin 55 = .ok (.iinc 2 1, 3) := by decide +kernel
theorem dX10_partedKin_58 : decode cX10_partedKin 58 = .ok (.goto (-54), 3) := by decide +kernel
theorem dX10_partedKin_61 : decode cX10_partedKin 61 = .ok (.iload_n 1, 1) := by decide +kernel
theorem dX10_partedKin_62 : decode cX10_partedKin 62 = .ok (.ireturn, 1) := by decide +kernel
theorem dX10_spoken_0 : decode cX10_spoken 0 = .ok (.aload_n 0, 1) := by decide +kernel
theorem dX10_spoken_1 : decode cX10_spoken 1 = .ok (.getfield 12, 3) := by decide +kernel
theorem dX10_spoken_4 : decode cX10_spoken 4 = .ok (.getfield 79, 3) := by decide +kernel
theorem dX10_spoken_7 : decode cX10_spoken 7 = .ok (.iload_n 1, 1) := by decide +kernel
theorem dX10_spoken_8 : decode cX10_spoken 8 = .ok (.iaload, 1) := by decide +kernel
theorem dX10_spoken_9 : decode cX10_spoken 9 = .ok (.istore_n 3, 1) := by decide +kernel
theorem dX10_spoken_10 : decode cX10_spoken 10 = .ok (.iload_n 3, 1) := by decide +kernel
theorem dX10_spoken_11 : decode cX10_spoken 11 = .ok (.iconst (-1), 1) := by decide +kernel
theorem dX10_spoken_12 : decode cX10_spoken 12 = .ok (.if_icmp .eq 48, 3) := by decide +kernel
theorem dX10_spoken_15 : decode cX10_spoken 15 = .ok (.aload_n 0, 1) := by decide +kernel
theorem dX10_spoken_16 : decode cX10_spoken 16 = .ok (.getfield 21, 3) := by decide +kernel
theorem dX10_spoken_19 : decode cX10_spoken 19 = .ok (.getfield 82, 3) := by decide +kernel
theorem dX10_spoken_22 : decode cX10_spoken 22 = .ok (.iload_n 1, 1) := by decide +kernel
theorem dX10_spoken_23 : decode cX10_spoken 23 = .ok (.iaload, 1) := by decide +kernel
theorem dX10_spoken_24 : decode cX10_spoken 24 = .ok (.iload_n 2, 1) := by decide +kernel
theorem dX10_spoken_25 : decode cX10_spoken 25 = .ok (.invokestatic 65, 3) := by decide +kernel
theorem dX10_spoken_28 : decode cX10_spoken 28 = .ok (.ifCond .ne 32, 3) := by decide +kernel
theorem dX10_spoken_31 : decode cX10_spoken 31 = .ok (.aload_n 0, 1) := by decide +kernel
theorem dX10_spoken_32 : decode cX10_spoken 32 = .ok (.getfield 21, 3) := by decide +kernel
theorem dX10_spoken_35 : decode cX10_spoken 35 = .ok (.getfield 62, 3) := by decide +kernel
theorem dX10_spoken_38 : decode cX10_spoken 38 = .ok (.iload_n 1, 1) := by decide +kernel
theorem dX10_spoken_39 : decode cX10_spoken 39 = .ok (.invokestatic 65, 3) := by decide +kernel
theorem dX10_spoken_42 : decode cX10_spoken 42 = .ok (.aload_n 0, 1) := by decide +kernel
theorem dX10_spoken_43 : decode cX10_spoken 43 = .ok (.getfield 21, 3) := by decide +kernel
theorem dX10_spoken_46 : decode cX10_spoken 46 = .ok (.getfield 62, 3) := by decide +kernel
theorem dX10_spoken_49 : decode cX10_spoken 49 = .ok (.iload_n 3, 1) := by decide +kernel
theorem dX10_spoken_50 : decode cX10_spoken 50 = .ok (.invokestatic 65, 3) := by decide +kernel
theorem dX10_spoken_53 : decode cX10_spoken 53 = .ok (.if_icmp .ne 7, 3) := by decide +kernel
theorem dX10_spoken_56 : decode cX10_spoken 56 = .ok (.iconst 1, 1) := by decide +kernel
theorem dX10_spoken_57 : decode cX10_spoken 57 = .ok (.goto 4, 3) := by decide +kernel
theorem dX10_spoken_60 : decode cX10_spoken 60 = .ok (.iconst 0, 1) := by decide +kernel
theorem dX10_spoken_61 : decode cX10_spoken 61 = .ok (.istore 4, 2) := by decide +kernel
theorem dX10_spoken_63 : decode cX10_spoken 63 = .ok (.iload 4, 2) := by decide +kernel
theorem dX10_spoken_65 : decode cX10_spoken 65 = .ok (.ifCond .eq 7, 3) := by decide +kernel
theorem dX10_spoken_68 : decode cX10_spoken 68 = .ok (.iload_n 3, 1) := by decide +kernel
theorem dX10_spoken_69 : decode cX10_spoken 69 = .ok (.goto 4, 3) := by decide +kernel
theorem dX10_spoken_72 : decode cX10_spoken 72 = .ok (.iload_n 1, 1) := by decide +kernel
theorem dX10_spoken_73 : decode cX10_spoken 73 = .ok (.istore 5, 2) := by decide +kernel
theorem dX10_spoken_75 : decode cX10_spoken 75 = .ok (.iload 5, 2) := by decide +kernel
theorem dX10_spoken_77 : decode cX10_spoken 77 = .ok (.bipush 9, 2) := by decide +kernel
theorem dX10_spoken_79 : decode cX10_spoken 79 = .ok (.imul, 1) := by decide +kernel
theorem dX10_spoken_80 : decode cX10_spoken 80 = .ok (.iload_n 2, 1) := by decide +kernel
theorem dX10_spoken_81 : decode cX10_spoken 81 = .ok (.iadd, 1) := by decide +kernel
theorem dX10_spoken_82 : decode cX10_spoken 82 = .ok (.istore 6, 2) := by decide +kernel
theorem dX10_spoken_84 : decode cX10_spoken 84 = .ok (.aload_n 0, 1) := by decide +kernel
theorem dX10_spoken_85 : decode cX10_spoken 85 = .ok (.getfield 21, 3) := by decide +kernel
theorem dX10_spoken_88 : decode cX10_spoken 88 = .ok (.getfield 82, 3) := by decide +kernel
theorem dX10_spoken_91 : decode cX10_spoken 91 = .ok (.iload 5, 2) := by decide +kernel
theorem dX10_spoken_93 : decode cX10_spoken 93 = .ok (.iaload, 1) := by decide +kernel
theorem dX10_spoken_94 : decode cX10_spoken 94 = .ok (.iload_n 2, 1) := by decide +kernel
theorem dX10_spoken_95 : decode cX10_spoken 95 = .ok (.invokestatic 65, 3) := by decide +kernel
theorem dX10_spoken_98 : decode cX10_spoken 98 = .ok (.iconst 1, 1) := by decide +kernel
theorem dX10_spoken_99 : decode cX10_spoken 99 = .ok (.if_icmp .ne 16, 3) := by decide +kernel
theorem dX10_spoken_102 : decode cX10_spoken 102 = .ok (.aload_n 0, 1) := by decide +kernel
theorem dX10_spoken_103 : decode cX10_spoken 103 = .ok (.getfield 21, 3) := by decide +kernel
theorem dX10_spoken_106 : decode cX10_spoken 106 = .ok (.getfield 85, 3) := by decide +kernel
theorem dX10_spoken_109 : decode cX10_spoken 109 = .ok (.iload 6, 2) := by decide +kernel
theorem dX10_spoken_111 : decode cX10_spoken 111 = .ok (.iaload, 1) := by decide +kernel
theorem dX10_spoken_112 : decode cX10_spoken 112 = .ok (.goto 13, 3) := by decide +kernel
theorem dX10_spoken_115 : decode cX10_spoken 115 = .ok (.aload_n 0, 1) := by decide +kernel
theorem dX10_spoken_116 : decode cX10_spoken 116 = .ok (.getfield 21, 3) := by decide +kernel
theorem dX10_spoken_119 : decode cX10_spoken 119 = .ok (.getfield 88, 3) := by decide +kernel
theorem dX10_spoken_122 : decode cX10_spoken 122 = .ok (.iload 6, 2) := by decide +kernel
theorem dX10_spoken_124 : decode cX10_spoken 124 = .ok (.iaload, 1) := by decide +kernel
theorem dX10_spoken_125 : decode cX10_spoken 125 = .ok (.ireturn, 1) := by decide +kernel
theorem dX10_together_0 : decode cX10_together 0 = .ok (.iload_n 1, 1) := by decide +kernel
theorem dX10_together_1 : decode cX10_together 1 = .ok (.aload_n 0, 1) := by decide +kernel
theorem dX10_together_2 : decode cX10_together 2 = .ok (.getfield 21, 3) := by decide +kernel
theorem dX10_together_5 : decode cX10_together 5 = .ok (.getfield 91, 3) := by decide +kernel
theorem dX10_together_8 : decode cX10_together 8 = .ok (.iconst (-1), 1) := by decide +kernel
theorem dX10_together_9 : decode cX10_together 9 = .ok (.ixor, 1) := by decide +kernel
theorem dX10_together_10 : decode cX10_together 10 = .ok (.iand, 1) := by decide +kernel
theorem dX10_together_11 : decode cX10_together 11 = .ok (.istore_n 3, 1) := by decide +kernel
theorem dX10_together_12 : decode cX10_together 12 = .ok (.iconst 0, 1) := by decide +kernel
theorem dX10_together_13 : decode cX10_together 13 = .ok (.istore 4, 2) := by decide +kernel
theorem dX10_together_15 : decode cX10_together 15 = .ok (.iconst 0, 1) := by decide +kernel
theorem dX10_together_16 : decode cX10_together 16 = .ok (.istore 5, 2) := by decide +kernel
theorem dX10_together_18 : decode cX10_together 18 = .ok (.iload 5, 2) := by decide +kernel
theorem dX10_together_20 : decode cX10_together 20 = .ok (.aload_n 0, 1) := by decide +kernel
theorem dX10_together_21 : decode cX10_together 21 = .ok (.getfield 12, 3) := by decide +kernel
theorem dX10_together_24 : decode cX10_together 24 = .ok (.getfield 49, 3) := by decide +kernel
theorem dX10_together_27 : decode cX10_together 27 = .ok (.if_icmp .ge 31, 3) := by decide +kernel
theorem dX10_together_30 : decode cX10_together 30 = .ok (.iload_n 3, 1) := by decide +kernel
theorem dX10_together_31 : decode cX10_together 31 = .ok (.iload 5, 2) := by decide +kernel
theorem dX10_together_33 : decode cX10_together 33 = .ok (.invokestatic 65, 3) := by decide +kernel
theorem dX10_together_36 : decode cX10_together 36 = .ok (.iconst 1, 1) := by decide +kernel
theorem dX10_together_37 : decode cX10_together 37 = .ok (.if_icmp .ne 15, 3) := by decide +kernel
theorem dX10_together_40 : decode cX10_together 40 = .ok (.iload 4, 2) := by decide +kernel
theorem dX10_together_42 : decode cX10_together 42 = .ok (.aload_n 0, 1) := by decide +kernel
theorem dX10_together_43 : decode cX10_together 43 = .ok (.iload 5, 2) := by decide +kernel
theorem dX10_together_45 : decode cX10_together 45 = .ok (.iload_n 2, 1) := by decide +kernel
theorem dX10_together_46 : decode cX10_together 46 = .ok (.invokevirtual 94, 3) := by decide +kernel
theorem dX10_together_49 : decode cX10_together 49 = .ok (.iadd, 1) := by decide +kernel
theorem dX10_together_50 : decode cX10_together 50 = .ok (.istore 4, 2) := by decide +kernel
theorem dX10_together_52 : decode cX10_together 52 = .ok (.iinc 5 1, 3) := by decide +kernel
theorem dX10_together_55 : decode cX10_together 55 = .ok (.goto (-37), 3) := by decide +kernel
theorem dX10_together_58 : decode cX10_together 58 = .ok (.iload 4, 2) := by decide +kernel
theorem dX10_together_60 : decode cX10_together 60 = .ok (.ireturn, 1) := by decide +kernel
theorem dX10_areFoes_0 : decode cX10_areFoes 0 = .ok (.iconst 0, 1) := by decide +kernel
theorem dX10_areFoes_1 : decode cX10_areFoes 1 = .ok (.istore_n 3, 1) := by decide +kernel
theorem dX10_areFoes_2 : decode cX10_areFoes 2 = .ok (.iconst 0, 1) := by decide +kernel
theorem dX10_areFoes_3 : decode cX10_areFoes 3 = .ok (.istore 4, 2) := by decide +kernel
theorem dX10_areFoes_5 : decode cX10_areFoes 5 = .ok (.iconst 0, 1) := by decide +kernel
theorem dX10_areFoes_6 : decode cX10_areFoes 6 = .ok (.istore 5, 2) := by decide +kernel
theorem dX10_areFoes_8 : decode cX10_areFoes 8 = .ok (.iload 5, 2) := by decide +kernel
theorem dX10_areFoes_10 : decode cX10_areFoes 10 = .ok (.aload_n 0, 1) := by decide +kernel
theorem dX10_areFoes_11 : decode cX10_areFoes 11 = .ok (.getfield 12, 3) := by decide +kernel
theorem dX10_areFoes_14 : decode cX10_areFoes 14 = .ok (.getfield 52, 3) := by decide +kernel
theorem dX10_areFoes_17 : decode cX10_areFoes 17 = .ok (.if_icmp .ge 109, 3) := by decide +kernel
theorem dX10_areFoes_20 : decode cX10_areFoes 20 = .ok (.aload_n 0, 1) := by decide +kernel
theorem dX10_areFoes_21 : decode cX10_areFoes 21 = .ok (.iload_n 1, 1) := by decide +kernel
theorem dX10_areFoes_22 : decode cX10_areFoes 22 = .ok (.iload 5, 2) := by decide +kernel
theorem dX10_areFoes_24 : decode cX10_areFoes 24 = .ok (.invokevirtual 94, 3) := by decide +kernel
theorem dX10_areFoes_27 : decode cX10_areFoes 27 = .ok (.istore 6, 2) := by decide +kernel
theorem dX10_areFoes_29 : decode cX10_areFoes 29 = .ok (.aload_n 0, 1) := by decide +kernel
theorem dX10_areFoes_30 : decode cX10_areFoes 30 = .ok (.iload_n 2, 1) := by decide +kernel
theorem dX10_areFoes_31 : decode cX10_areFoes 31 = .ok (.iload 5, 2) := by decide +kernel
theorem dX10_areFoes_33 : decode cX10_areFoes 33 = .ok (.invokevirtual 94, 3) := by decide +kernel
theorem dX10_areFoes_36 : decode cX10_areFoes 36 = .ok (.istore 7, 2) := by decide +kernel
theorem dX10_areFoes_38 : decode cX10_areFoes 38 = .ok (.iload 6, 2) := by decide +kernel
theorem dX10_areFoes_40 : decode cX10_areFoes 40 = .ok (.invokestatic 100, 3) := by decide +kernel
theorem dX10_areFoes_43 : decode cX10_areFoes 43 = .ok (.iconst 5, 1) := by decide +kernel
theorem dX10_areFoes_44 : decode cX10_areFoes 44 = .ok (.if_icmp .lt 76, 3) := by decide +kernel
theorem dX10_areFoes_47 : decode cX10_areFoes 47 = .ok (.iload 7, 2) := by decide +kernel
theorem dX10_areFoes_49 : decode cX10_areFoes 49 = .ok (.invokestatic 100, 3) := by decide +kernel
theorem dX10_areFoes_52 : decode cX10_areFoes 52 = .ok (.iconst 5, 1) := by decide +kernel
theorem dX10_areFoes_53 : decode cX10_areFoes 53 = .ok (.if_icmp .lt 67, 3) := by decide +kernel
theorem dX10_areFoes_56 : decode cX10_areFoes 56 = .ok (.iload_n 3, 1) := by decide +kernel
theorem dX10_areFoes_57 : decode cX10_areFoes 57 = .ok (.iload 6, 2) := by decide +kernel
theorem dX10_areFoes_59 : decode cX10_areFoes 59 = .ok (.ifCond .le 7, 3) := by decide +kernel
theorem dX10_areFoes_62 : decode cX10_areFoes 62 = .ok (.iconst 1, 1) := by decide +kernel
theorem dX10_areFoes_63 : decode cX10_areFoes 63 = .ok (.goto 4, 3) := by decide +kernel
theorem dX10_areFoes_66 : decode cX10_areFoes 66 = .ok (.iconst 0, 1) := by decide +kernel
theorem dX10_areFoes_67 : decode cX10_areFoes 67 = .ok (.iload 7, 2) := by decide +kernel
theorem dX10_areFoes_69 : decode cX10_areFoes 69 = .ok (.ifCond .le 7, 3) := by decide +kernel
theorem dX10_areFoes_72 : decode cX10_areFoes 72 = .ok (.iconst 1, 1) := by decide +kernel
theorem dX10_areFoes_73 : decode cX10_areFoes 73 = .ok (.goto 4, 3) := by decide +kernel
theorem dX10_areFoes_76 : decode cX10_areFoes 76 = .ok (.iconst 0, 1) := by decide +kernel
theorem dX10_areFoes_77 : decode cX10_areFoes 77 = .ok (.if_icmp .eq 7, 3) := by decide +kernel
theorem dX10_areFoes_80 : decode cX10_areFoes 80 = .ok (.iconst 1, 1) := by decide +kernel
theorem dX10_areFoes_81 : decode cX10_areFoes 81 = .ok (.goto 4, 3) := by decide +kernel
theorem dX10_areFoes_84 : decode cX10_areFoes 84 = .ok (.iconst 0, 1) := by decide +kernel
theorem dX10_areFoes_85 : decode cX10_areFoes 85 = .ok (.ior, 1) := by decide +kernel
theorem dX10_areFoes_86 : decode cX10_areFoes 86 = .ok (.istore_n 3, 1) := by decide +kernel
theorem dX10_areFoes_87 : decode cX10_areFoes 87 = .ok (.iload 4, 2) := by decide +kernel
theorem dX10_areFoes_89 : decode cX10_areFoes 89 = .ok (.iload 6, 2) := by decide +kernel
theorem dX10_areFoes_91 : decode cX10_areFoes 91 = .ok (.ifCond .le 7, 3) := by decide +kernel
theorem dX10_areFoes_94 : decode cX10_areFoes 94 = .ok (.iconst 1, 1) := by decide +kernel
theorem dX10_areFoes_95 : decode cX10_areFoes 95 = .ok (.goto 4, 3) := by decide +kernel
theorem dX10_areFoes_98 : decode cX10_areFoes 98 = .ok (.iconst 0, 1) := by decide +kernel
theorem dX10_areFoes_99 : decode cX10_areFoes 99 = .ok (.iload 7, 2) := by decide +kernel
theorem dX10_areFoes_101 : decode cX10_areFoes 101 = .ok (.ifCond .le 7, 3) := by decide +kernel
theorem dX10_areFoes_104 : decode cX10_areFoes 104 = .ok (.iconst 1, 1) := by decide +kernel
theorem dX10_areFoes_105 : decode cX10_areFoes 105 = .ok (.goto 4, 3) := by decide +kernel
theorem dX10_areFoes_108 : decode cX10_areFoes 108 = .ok (.iconst 0, 1) := by decide +kernel
theorem dX10_areFoes_109 : decode cX10_areFoes 109 = .ok (.if_icmp .ne 7, 3) := by decide +kernel
theorem dX10_areFoes_112 : decode cX10_areFoes 112 = .ok (.iconst 1, 1) := by decide +kernel
theorem dX10_areFoes_113 : decode cX10_areFoes 113 = .ok (.goto 4, 3) := by decide +kernel
theorem dX10_areFoes_116 : decode cX10_areFoes 116 = .ok (.iconst 0, 1) := by decide +kernel
theorem dX10_areFoes_117 : decode cX10_areFoes 117 = .ok (.ior, 1) := by decide +kernel
theorem dX10_areFoes_118 : decode cX10_areFoes 118 = .ok (.istore 4, 2) := by decide +kernel
theorem dX10_areFoes_120 : decode cX10_areFoes 120 = .ok (.iinc 5 1, 3) := by decide +kernel
theorem dX10_areFoes_123 : decode cX10_areFoes 123 = .ok (.goto (-115), 3) := by decide +kernel
theorem dX10_areFoes_126 : decode cX10_areFoes 126 = .ok (.iload_n 3, 1) := by decide +kernel
theorem dX10_areFoes_127 : decode cX10_areFoes 127 = .ok (.ifCond .eq 12, 3) := by decide +kernel
theorem dX10_areFoes_130 : decode cX10_areFoes 130 = .ok (.iload 4, 2) := by decide +kernel
theorem dX10_areFoes_132 : decode cX10_areFoes 132 = .ok (.ifCond .eq 7, 3) := by decide +kernel
theorem dX10_areFoes_135 : decode cX10_areFoes 135 = .ok (.iconst 1, 1) := by decide +kernel
theorem dX10_areFoes_136 : decode cX10_areFoes 136 = .ok (.goto 4, 3) := by decide +kernel
theorem dX10_areFoes_139 : decode cX10_areFoes 139 = .ok (.iconst 0, 1) := by decide +kernel
theorem dX10_areFoes_140 : decode cX10_areFoes 140 = .ok (.ireturn, 1) := by decide +kernel
theorem dX10_holdsFoes_0 : decode cX10_holdsFoes 0 = .ok (.iconst 0, 1) := by decide +kernel
theorem dX10_holdsFoes_1 : decode cX10_holdsFoes 1 = .ok (.istore_n 2, 1) := by decide +kernel
theorem dX10_holdsFoes_2 : decode cX10_holdsFoes 2 = .ok (.iload_n 2, 1) := by decide +kernel
theorem dX10_holdsFoes_3 : decode cX10_holdsFoes 3 = .ok (.aload_n 0, 1) := by decide +kernel
theorem dX10_holdsFoes_4 : decode cX10_holdsFoes 4 = .ok (.getfield 12, 3) := by decide +kernel
theorem dX10_holdsFoes_7 : decode cX10_holdsFoes 7 = .ok (.getfield 49, 3) := by decide +kernel
theorem dX10_holdsFoes_10 : decode cX10_holdsFoes 10 = .ok (.if_icmp .ge 59, 3) := by decide +kernel
theorem dX10_holdsFoes_13 : decode cX10_holdsFoes 13 = .ok (.iload_n 2, 1) := by decide +kernel
theorem dX10_holdsFoes_14 : decode cX10_holdsFoes 14 = .ok (.iconst 1, 1) := by decide +kernel
theorem dX10_holdsFoes_15 : decode cX10_holdsFoes 15 = .ok (.iadd, 1) := by decide +kernel
theorem dX10_holdsFoes_16 : decode cX10_holdsFoes 16 = .ok (.istore_n 3, 1) := by decide +kernel
theorem dX10_holdsFoes_17 : decode cX10_holdsFoes 17 = .ok (.iload_n 3, 1) := by decide +kernel
theorem dX10_holdsFoes_18 : decode cX10_holdsFoes 18 = .ok (.aload_n 0, 1) := by decide +kernel
theorem dX10_holdsFoes_19 : decode cX10_holdsFoes 19 = .ok (.getfield 12, 3) := by decide +kernel
theorem dX10_holdsFoes_22 : decode cX10_holdsFoes 22 = .ok (.getfield 49, 3) := by decide +kernel
theorem dX10_holdsFoes_25 : decode cX10_holdsFoes 25 = .ok (.if_icmp .ge 38, 3) := by decide +kernel
theorem dX10_holdsFoes_28 : decode cX10_holdsFoes 28 = .ok (.iload_n 1, 1) := by decide +kernel
theorem dX10_holdsFoes_29 : decode cX10_holdsFoes 29 = .ok (.iload_n 2, 1) := by decide +kernel
theorem dX10_holdsFoes_30 : decode cX10_holdsFoes 30 = .ok (.invokestatic 65, 3) := by decide +kernel
theorem dX10_holdsFoes_33 : decode cX10_holdsFoes 33 = .ok (.iconst 1, 1) := by decide +kernel
theorem dX10_holdsFoes_34 : decode cX10_holdsFoes 34 = .ok (.if_icmp .ne 23, 3) := by decide +kernel
theorem dX10_holdsFoes_37 : decode cX10_holdsFoes 37 = .ok (.iload_n 1, 1) := by decide +kernel
theorem dX10_holdsFoes_38 : decode cX10_holdsFoes 38 = .ok (.iload_n 3, 1) := by decide +kernel
theorem dX10_holdsFoes_39 : decode cX10_holdsFoes 39 = .ok (.invokestatic 65, 3) := by decide +kernel
theorem dX10_holdsFoes_42 : decode cX10_holdsFoes 42 = .ok (.iconst 1, 1) := by decide +kernel
theorem dX10_holdsFoes_43 : decode cX10_holdsFoes 43 = .ok (.if_icmp .ne 14, 3) := by decide +kernel
theorem dX10_holdsFoes_46 : decode cX10_holdsFoes 46 = .ok (.aload_n 0, 1) := by decide +kernel
theorem dX10_holdsFoes_47 : decode cX10_holdsFoes 47 = .ok (.iload_n 2, 1) := by decide +kernel
theorem dX10_holdsFoes_48 : decode cX10_holdsFoes 48 = .ok (.iload_n 3, 1) := by decide +kernel
theorem dX10_holdsFoes_49 : decode cX10_holdsFoes 49 = .ok (.invokevirtual 105, 3) := by decide +kernel
theorem dX10_holdsFoes_52 : decode cX10_holdsFoes 52 = .ok (.ifCond .eq 5, 3) := by decide +kernel
theorem dX10_holdsFoes_55 : decode cX10_holdsFoes 55 = .ok (.iconst 1, 1) := by decide +kernel
theorem dX10_holdsFoes_56 : decode cX10_holdsFoes 56 = .ok (.ireturn, 1) := by decide +kernel
theorem dX10_holdsFoes_57 : decode cX10_holdsFoes 57 = .ok (.iinc 3 1, 3) := by decide +kernel
theorem dX10_holdsFoes_60 : decode cX10_holdsFoes 60 = .ok (.goto (-43), 3) := by decide +kernel
theorem dX10_holdsFoes_63 : decode cX10_holdsFoes 63 = .ok (.iinc 2 1, 3) := by decide +kernel
theorem dX10_holdsFoes_66 : decode cX10_holdsFoes 66 = .ok (.goto (-64), 3) := by decide +kernel
theorem dX10_holdsFoes_69 : decode cX10_holdsFoes 69 = .ok (.iconst 0, 1) := by decide +kernel
theorem dX10_holdsFoes_70 : decode cX10_holdsFoes 70 = .ok (.ireturn, 1) := by decide +kernel
theorem dX10_whyStay_0 : decode cX10_whyStay 0 = .ok (.iload_n 1, 1) := by decide +kernel
theorem dX10_whyStay_1 : decode cX10_whyStay 1 = .ok (.ifCond .eq 14, 3) := by decide +kernel
theorem dX10_whyStay_4 : decode cX10_whyStay 4 = .ok (.iload_n 1, 1) := by decide +kernel
theorem dX10_whyStay_5 : decode cX10_whyStay 5 = .ok (.aload_n 0, 1) := by decide +kernel
theorem dX10_whyStay_6 : decode cX10_whyStay 6 = .ok (.invokevirtual 109, 3) := by decide +kernel
theorem dX10_whyStay_9 : decode cX10_whyStay 9 = .ok (.iconst (-1), 1) := by decide +kernel
theorem dX10_whyStay_10 : decode cX10_whyStay 10 = .ok (.ixor, 1) := by decide +kernel
theorem dX10_whyStay_11 : decode cX10_whyStay 11 = .ok (.iand, 1) := by decide +kernel
theorem dX10_whyStay_12 : decode cX10_whyStay 12 = .ok (.ifCond .eq 5, 3) := by decide +kernel
theorem dX10_whyStay_15 : decode cX10_whyStay 15 = .ok (.iconst 1, 1) := by decide +kernel
theorem dX10_whyStay_16 : decode cX10_whyStay 16 = .ok (.ireturn, 1) := by decide +kernel
theorem dX10_whyStay_17 : decode cX10_whyStay 17 = .ok (.iload_n 1, 1) := by decide +kernel
theorem dX10_whyStay_18 : decode cX10_whyStay 18 = .ok (.invokestatic 73, 3) := by decide +kernel
theorem dX10_whyStay_21 : decode cX10_whyStay 21 = .ok (.aload_n 0, 1) := by decide +kernel
theorem dX10_whyStay_22 : decode cX10_whyStay 22 = .ok (.getfield 12, 3) := by decide +kernel
theorem dX10_whyStay_25 : decode cX10_whyStay 25 = .ok (.getfield 112, 3) := by decide +kernel
theorem dX10_whyStay_28 : decode cX10_whyStay 28 = .ok (.if_icmp .le 5, 3) := by decide +kernel
theorem dX10_whyStay_31 : decode cX10_whyStay 31 = .ok (.iconst 2, 1) := by decide +kernel
theorem dX10_whyStay_32 : decode cX10_whyStay 32 = .ok (.ireturn, 1) := by decide +kernel
theorem dX10_whyStay_33 : decode cX10_whyStay 33 = .ok (.aload_n 0, 1) := by decide +kernel
theorem dX10_whyStay_34 : decode cX10_whyStay 34 = .ok (.getfield 12, 3) := by decide +kernel
theorem dX10_whyStay_37 : decode cX10_whyStay 37 = .ok (.getfield 52, 3) := by decide +kernel
theorem dX10_whyStay_40 : decode cX10_whyStay 40 = .ok (.ifCond .eq 22, 3) := by decide +kernel
theorem dX10_whyStay_43 : decode cX10_whyStay 43 = .ok (.aload_n 0, 1) := by decide +kernel
theorem dX10_whyStay_44 : decode cX10_whyStay 44 = .ok (.aload_n 0, 1) := by decide +kernel
theorem dX10_whyStay_45 : decode cX10_whyStay 45 = .ok (.iload_n 1, 1) := by decide +kernel
theorem dX10_whyStay_46 : decode cX10_whyStay 46 = .ok (.aload_n 0, 1) := by decide +kernel
theorem dX10_whyStay_47 : decode cX10_whyStay 47 = .ok (.getfield 21, 3) := by decide +kernel
theorem dX10_whyStay_50 : decode cX10_whyStay 50 = .ok (.getfield 115, 3) := by decide +kernel
theorem dX10_whyStay_53 : decode cX10_whyStay 53 = .ok (.invokevirtual 118, 3) := by decide +kernel
theorem dX10_whyStay_56 : decode cX10_whyStay 56 = .ok (.invokevirtual 121, 3) := by decide +kernel
theorem dX10_whyStay_59 : decode cX10_whyStay 59 = .ok (.ifCond .ne 5, 3) := by decide +kernel
theorem dX10_whyStay_62 : decode cX10_whyStay 62 = .ok (.iconst 3, 1) := by decide +kernel
theorem dX10_whyStay_63 : decode cX10_whyStay 63 = .ok (.ireturn, 1) := by decide +kernel
theorem dX10_whyStay_64 : decode cX10_whyStay 64 = .ok (.aload_n 0, 1) := by decide +kernel
theorem dX10_whyStay_65 : decode cX10_whyStay 65 = .ok (.iload_n 1, 1) := by decide +kernel
theorem dX10_whyStay_66 : decode cX10_whyStay 66 = .ok (.invokevirtual 125, 3) := by decide +kernel
theorem dX10_whyStay_69 : decode cX10_whyStay 69 = .ok (.ifCond .eq 7, 3) := by decide +kernel
theorem dX10_whyStay_72 : decode cX10_whyStay 72 = .ok (.iconst 4, 1) := by decide +kernel
theorem dX10_whyStay_73 : decode cX10_whyStay 73 = .ok (.goto 4, 3) := by decide +kernel
theorem dX10_whyStay_76 : decode cX10_whyStay 76 = .ok (.iconst 0, 1) := by decide +kernel
theorem dX10_whyStay_77 : decode cX10_whyStay 77 = .ok (.ireturn, 1) := by decide +kernel
theorem dX7_addNumber_0 : decode cX7_addNumber 0 = .ok (.aload_n 0, 1) := by decide +kernel
theorem dX7_addNumber_1 : decode cX7_addNumber 1 = .ok (.getfield 15, 3) := by decide +kernel
theorem dX7_addNumber_4 : decode cX7_addNumber 4 = .ok (.iconst 4, 1) := by decide +kernel
theorem dX7_addNumber_5 : decode cX7_addNumber 5 = .ok (.iadd, 1) := by decide +kernel
theorem dX7_addNumber_6 : decode cX7_addNumber 6 = .ok (.sipush 940, 3) := by decide +kernel
theorem dX7_addNumber_9 : decode cX7_addNumber 9 = .ok (.if_icmp .le 4, 3) := by decide +kernel
theorem dX7_addNumber_12 : decode cX7_addNumber 12 = .ok (.return_, 1) := by decide +kernel
theorem dX7_addNumber_13 : decode cX7_addNumber 13 = .ok (.bipush 24, 2) := by decide +kernel
theorem dX7_addNumber_15 : decode cX7_addNumber 15 = .ok (.istore_n 2, 1) := by decide +kernel
theorem dX7_addNumber_16 : decode cX7_addNumber 16 = .ok (.iload_n 2, 1) := by decide +kernel
theorem dX7_addNumber_17 : decode cX7_addNumber 17 = .ok (.ifCond .lt 35, 3) := by decide +kernel
theorem dX7_addNumber_20 : decode cX7_addNumber 20 = .ok (.aload_n 0, 1) := by decide +kernel
theorem dX7_addNumber_21 : decode cX7_addNumber 21 = .ok (.getfield 9, 3) := by decide +kernel
theorem dX7_addNumber_24 : decode cX7_addNumber 24 = .ok (.aload_n 0, 1) := by decide +kernel
theorem dX7_addNumber_25 : decode cX7_addNumber 25 = .ok (.getfield 15, 3) := by decide +kernel
theorem dX7_addNumber_28 : decode cX7_addNumber 28 = .ok (.iload_n 1, 1) := by decide +kernel
theorem dX7_addNumber_29 : decode cX7_addNumber 29 = .ok (.iload_n 2, 1) := by decide +kernel
theorem dX7_addNumber_30 : decode cX7_addNumber 30 = .ok (.iushr, 1) := by decide +kernel
theorem dX7_addNumber_31 : decode cX7_addNumber 31 = .ok (.sipush 255, 3) := by decide +kernel
theorem dX7_addNumber_34 : decode cX7_addNumber 34 = .ok (.iand, 1) := by decide +kernel
theorem dX7_addNumber_35 : decode cX7_addNumber 35 = .ok (.iastore, 1) := by decide +kernel
theorem dX7_addNumber_36 : decode cX7_addNumber 36 = .ok (.aload_n 0, 1) := by decide +kernel
theorem dX7_addNumber_37 : decode cX7_addNumber 37 = .ok (.dup, 1) := by decide +kernel
theorem dX7_addNumber_38 : decode cX7_addNumber 38 = .ok (.getfield 15, 3) := by decide +kernel
theorem dX7_addNumber_41 : decode cX7_addNumber 41 = .ok (.iconst 1, 1) := by decide +kernel
theorem dX7_addNumber_42 : decode cX7_addNumber 42 = .ok (.iadd, 1) := by decide +kernel
theorem dX7_addNumber_43 : decode cX7_addNumber 43 = .ok (.putfield 15, 3) := by decide +kernel
theorem dX7_addNumber_46 : decode cX7_addNumber 46 = .ok (.iinc 2 (-8), 3) := by decide +kernel
theorem dX7_addNumber_49 : decode cX7_addNumber 49 = .ok (.goto (-33), 3) := by decide +kernel
theorem dX7_addNumber_52 : decode cX7_addNumber 52 = .ok (.return_, 1) := by decide +kernel
theorem dX7_pairAt_0 : decode cX7_pairAt 0 = .ok (.iload_n 1, 1) := by decide +kernel
theorem dX7_pairAt_1 : decode cX7_pairAt 1 = .ok (.ifCond .lt 12, 3) := by decide +kernel
theorem dX7_pairAt_4 : decode cX7_pairAt 4 = .ok (.iload_n 1, 1) := by decide +kernel
theorem dX7_pairAt_5 : decode cX7_pairAt 5 = .ok (.iconst 1, 1) := by decide +kernel
theorem dX7_pairAt_6 : decode cX7_pairAt 6 = .ok (.iadd, 1) := by decide +kernel
theorem dX7_pairAt_7 : decode cX7_pairAt 7 = .ok (.sipush 940, 3) := by decide +kernel
theorem dX7_pairAt_10 : decode cX7_pairAt 10 = .ok (.if_icmp .lt 7, 3) := by decide +kernel
theorem dX7_pairAt_13 : decode cX7_pairAt 13 = .ok (.iconst 0, 1) := by decide +kernel
theorem dX7_pairAt_14 : decode cX7_pairAt 14 = .ok (.goto 22, 3) := by decide +kernel
theorem dX7_pairAt_17 : decode cX7_pairAt 17 = .ok (.aload_n 0, 1) := by decide +kernel
theorem dX7_pairAt_18 : decode cX7_pairAt 18 = .ok (.getfield 9, 3) := by decide +kernel
theorem dX7_pairAt_21 : decode cX7_pairAt 21 = .ok (.iload_n 1, 1) := by decide +kernel
theorem dX7_pairAt_22 : decode cX7_pairAt 22 = .ok (.iaload, 1) := by decide +kernel
theorem dX7_pairAt_23 : decode cX7_pairAt 23 = .ok (.sipush 256, 3) := by decide +kernel
theorem dX7_pairAt_26 : decode cX7_pairAt 26 = .ok (.imul, 1) := by decide +kernel
theorem dX7_pairAt_27 : decode cX7_pairAt 27 = .ok (.aload_n 0, 1) := by decide +kernel
theorem dX7_pairAt_28 : decode cX7_pairAt 28 = .ok (.getfield 9, 3) := by decide +kernel
theorem dX7_pairAt_31 : decode cX7_pairAt 31 = .ok (.iload_n 1, 1) := by decide +kernel
theorem dX7_pairAt_32 : decode cX7_pairAt 32 = .ok (.iconst 1, 1) := by decide +kernel
theorem dX7_pairAt_33 : decode cX7_pairAt 33 = .ok (.iadd, 1) := by decide +kernel
theorem dX7_pairAt_34 : decode cX7_pairAt 34 = .ok (.iaload, 1) := by decide +kernel
theorem dX7_pairAt_35 : decode cX7_pairAt 35 = .ok (.iadd, 1) := by decide +kernel
theorem dX7_pairAt_36 : decode cX7_pairAt 36 = .ok (.ireturn, 1) := by decide +kernel
theorem dX7_step_0 : decode cX7_step 0 = .ok (.aload_n 0, 1) := by decide +kernel
theorem dX7_step_1 : decode cX7_step 1 = .ok (.getfield 15, 3) := by decide +kernel
theorem dX7_step_4 : decode cX7_step 4 = .ok (.aload_n 0, 1) := by decide +kernel
theorem dX7_step_5 : decode cX7_step 5 = .ok (.getfield 19, 3) := by decide +kernel
theorem dX7_step_8 : decode cX7_step 8 = .ok (.if_icmp .ge 10, 3) := by decide +kernel
theorem dX7_step_11 : decode cX7_step 11 = .ok (.aload_n 0, 1) := by decide +kernel
theorem dX7_step_12 : decode cX7_step 12 = .ok (.getfield 15, 3) := by decide +kernel
theorem dX7_step_15 : decode cX7_step 15 = .ok (.goto 7, 3) := by decide +kernel
theorem dX7_step_18 : decode cX7_step 18 = .ok (.aload_n 0, 1) := by decide +kernel
theorem dX7_step_19 : decode cX7_step 19 = .ok (.getfield 19, 3) := by decide +kernel
theorem dX7_step_22 : decode cX7_step 22 = .ok (.istore_n 1, 1) := by decide +kernel
theorem dX7_step_23 : decode cX7_step 23 = .ok (.aload_n 0, 1) := by decide +kernel
theorem dX7_step_24 : decode cX7_step 24 = .ok (.aload_n 0, 1) := by decide +kernel
theorem dX7_step_25 : decode cX7_step 25 = .ok (.getfield 22, 3) := by decide +kernel
theorem dX7_step_28 : decode cX7_step 28 = .ok (.putfield 28, 3) := by decide +kernel
theorem dX7_step_31 : decode cX7_step 31 = .ok (.aload_n 0, 1) := by decide +kernel
theorem dX7_step_32 : decode cX7_step 32 = .ok (.getfield 28, 3) := by decide +kernel
theorem dX7_step_35 : decode cX7_step 35 = .ok (.iload_n 1, 1) := by decide +kernel
theorem dX7_step_36 : decode cX7_step 36 = .ok (.if_icmp .ge 44, 3) := by decide +kernel
theorem dX7_step_39 : decode cX7_step 39 = .ok (.aload_n 0, 1) := by decide +kernel
theorem dX7_step_40 : decode cX7_step 40 = .ok (.getfield 9, 3) := by decide +kernel
theorem dX7_step_43 : decode cX7_step 43 = .ok (.aload_n 0, 1) := by decide +kernel
theorem dX7_step_44 : decode cX7_step 44 = .ok (.getfield 28, 3) := by decide +kernel
theorem dX7_step_47 : decode cX7_step 47 = .ok (.iaload, 1) := by decide +kernel
theorem dX7_step_48 : decode cX7_step 48 = .ok (.bipush 32, 2) := by decide +kernel
theorem dX7_step_50 : decode cX7_step 50 = .ok (.if_icmp .eq 17, 3) := by decide +kernel
theorem dX7_step_53 : decode cX7_step 53 = .ok (.aload_n 0, 1) := by decide +kernel
theorem dX7_step_54 : decode cX7_step 54 = .ok (.getfield 9, 3) := by decide +kernel
theorem dX7_step_57 : decode cX7_step 57 = .ok (.aload_n 0, 1) := by decide +kernel
theorem dX7_step_58 : decode cX7_step 58 = .ok (.getfield 28, 3) := by decide +kernel
theorem dX7_step_61 : decode cX7_step 61 = .ok (.iaload, 1) := by decide +kernel
theorem dX7_step_62 : decode cX7_step 62 = .ok (.bipush 10, 2) := by decide +kernel
theorem dX7_step_64 : decode cX7_step 64 = .ok (.if_icmp .ne 16, 3) := by decide +kernel
theorem dX7_step_67 : decode cX7_step 67 = .ok (.aload_n 0, 1) := by decide +kernel
theorem dX7_step_68 : decode cX7_step 68 = .ok (.dup, 1) := by decide +kernel
theorem dX7_step_69 : decode cX7_step 69 = .ok (.getfield 28, 3) := by decide +kernel
theorem dX7_step_72 : decode cX7_step 72 = .ok (.iconst 1, 1) := by decide +kernel
theorem dX7_step_73 : decode cX7_step 73 = .ok (.iadd, 1) := by decide +kernel
theorem dX7_step_74 : decode cX7_step 74 = .ok (.putfield 28, 3) := by decide +kernel
theorem dX7_step_77 : decode cX7_step 77 = .ok (.goto (-46), 3) := by decide +kernel
theorem dX7_step_80 : decode cX7_step 80 = .ok (.aload_n 0, 1) := by decide +kernel
theorem dX7_step_81 : decode cX7_step 81 = .ok (.getfield 28, 3) := by decide +kernel
theorem dX7_step_84 : decode cX7_step 84 = .ok (.iload_n 1, 1) := by decide +kernel
theorem dX7_step_85 : decode cX7_step 85 = .ok (.if_icmp .lt 29, 3) := by decide +kernel
theorem dX7_step_88 : decode cX7_step 88 = .ok (.aload_n 0, 1) := by decide +kernel
theorem dX7_step_89 : decode cX7_step 89 = .ok (.iload_n 1, 1) := by decide +kernel
theorem dX7_step_90 : decode cX7_step 90 = .ok (.putfield 28, 3) := by decide +kernel
theorem dX7_step_93 : decode cX7_step 93 = .ok (.aload_n 0, 1) := by decide +kernel
theorem dX7_step_94 : decode cX7_step 94 = .ok (.aload_n 0, 1) := by decide +kernel
theorem dX7_step_95 : decode cX7_step 95 = .ok (.getfield 15, 3) := by decide +kernel
theorem dX7_step_98 : decode cX7_step 98 = .ok (.aload_n 0, 1) := by decide +kernel
theorem dX7_step_99 : decode cX7_step 99 = .ok (.getfield 19, 3) := by decide +kernel
theorem dX7_step_102 : decode cX7_step 102 = .ok (.if_icmp .le 7, 3) := by decide +kernel
theorem dX7_step_105 : decode cX7_step 105 = .ok (.iconst 1, 1) := by decide +kernel
theorem dX7_step_106 : decode cX7_step 106 = .ok (.goto 4, 3) := by decide +kernel
theorem dX7_step_109 : decode cX7_step 109 = .ok (.iconst 0, 1) := by decide +kernel
theorem dX7_step_110 : decode cX7_step 110 = .ok (.putfield 31, 3) := by decide +kernel
theorem dX7_step_113 : decode cX7_step 113 = .ok (.return_, 1) := by decide +kernel
theorem dX7_step_114 : decode cX7_step 114 = .ok (.iconst 0, 1) := by decide +kernel
theorem dX7_step_115 : decode cX7_step 115 = .ok (.istore_n 2, 1) := by decide +kernel
theorem dX7_step_116 : decode cX7_step 116 = .ok (.iconst 0, 1) := by decide +kernel
theorem dX7_step_117 : decode cX7_step 117 = .ok (.istore_n 3, 1) := by decide +kernel
theorem dX7_step_118 : decode cX7_step 118 = .ok (.aload_n 0, 1) := by decide +kernel
theorem dX7_step_119 : decode cX7_step 119 = .ok (.lconst 0, 1) := by decide +kernel
theorem dX7_step_120 : decode cX7_step 120 = .ok (.putfield 34, 3) := by decide +kernel
theorem dX7_step_123 : decode cX7_step 123 = .ok (.aload_n 0, 1) := by decide +kernel
theorem dX7_step_124 : decode cX7_step 124 = .ok (.iconst 0, 1) := by decide +kernel
theorem dX7_step_125 : decode cX7_step 125 = .ok (.putfield 38, 3) := by decide +kernel
theorem dX7_step_128 : decode cX7_step 128 = .ok (.aload_n 0, 1) := by decide +kernel
theorem dX7_step_129 : decode cX7_step 129 = .ok (.aload_n 0, 1) := by decide +kernel
theorem dX7_step_130 : decode cX7_step 130 = .ok (.getfield 28, 3) := by decide +kernel
theorem dX7_step_133 : decode cX7_step 133 = .ok (.putfield 22, 3) := by decide +kernel
theorem dX7_step_136 : decode cX7_step 136 = .ok (.aload_n 0, 1) := by decide +kernel
theorem dX7_step_137 : decode cX7_step 137 = .ok (.getfield 22, 3) := by decide +kernel
theorem dX7_step_140 : decode cX7_step 140 = .ok (.aload_n 0, 1) := by decide +kernel
theorem dX7_step_141 : decode cX7_step 141 = .ok (.getfield 15, 3) := by decide +kernel
theorem dX7_step_144 : decode cX7_step 144 = .ok (.if_icmp .ge 102, 3) := by decide +kernel
theorem dX7_step_147 : decode cX7_step 147 = .ok (.aload_n 0, 1) := by decide +kernel
theorem dX7_step_148 : decode cX7_step 148 = .ok (.getfield 9, 3) := by decide +kernel
theorem dX7_step_151 : decode cX7_step 151 = .ok (.aload_n 0, 1) := by decide +kernel
theorem dX7_step_152 : decode cX7_step 152 = .ok (.getfield 22, 3) := by decide +kernel
theorem dX7_step_155 : decode cX7_step 155 = .ok (.iaload, 1) := by decide +kernel
theorem dX7_step_156 : decode cX7_step 156 = .ok (.istore 4, 2) := by decide +kernel
theorem dX7_step_158 : decode cX7_step 158 = .ok (.iload 4, 2) := by decide +kernel
theorem dX7_step_160 : decode cX7_step 160 = .ok (.bipush 97, 2) := by decide +kernel
theorem dX7_step_162 : decode cX7_step 162 = .ok (.if_icmp .lt 37, 3) := by decide +kernel
theorem dX7_step_165 : decode cX7_step 165 = .ok (.iload 4, 2) := by decide +kernel
theorem dX7_step_167 : decode cX7_step 167 = .ok (.bipush 122, 2) := by decide +kernel
theorem dX7_step_169 : decode cX7_step 169 = .ok (.if_icmp .gt 30, 3) := by decide +kernel
theorem dX7_step_172 : decode cX7_step 172 = .ok (.iinc 2 1, 3) := by decide +kernel
theorem dX7_step_175 : decode cX7_step 175 = .ok (.aload_n 0, 1) := by decide +kernel
theorem dX7_step_176 : decode cX7_step 176 = .ok (.aload_n 0, 1) := by decide +kernel
theorem dX7_step_177 : decode cX7_step 177 = .ok (.getfield 34, 3) := by decide +kernel
theorem dX7_step_180 : decode cX7_step 180 = .ok (.ldc2_w 41, 3) := by decide +kernel
theorem dX7_step_183 : decode cX7_step 183 = .ok (.lmul, 1) := by decide +kernel
theorem dX7_step_184 : decode cX7_step 184 = .ok (.iload 4, 2) := by decide +kernel
theorem dX7_step_186 : decode cX7_step 186 = .ok (.bipush 97, 2) := by decide +kernel
theorem dX7_step_188 : decode cX7_step 188 = .ok (.isub, 1) := by decide +kernel
theorem dX7_step_189 : decode cX7_step 189 = .ok (.iconst 1, 1) := by decide +kernel
theorem dX7_step_190 : decode cX7_step 190 = .ok (.iadd, 1) := by decide +kernel
theorem dX7_step_191 : decode cX7_step 191 = .ok (.i2l, 1) := by decide +kernel
theorem dX7_step_192 : decode cX7_step 192 = .ok (.ladd, 1) := by decide +kernel
theorem dX7_step_193 : decode cX7_step 193 = .ok (.putfield 34, 3) := by decide +kernel
theorem dX7_step_196 : decode cX7_step 196 = .ok (.goto 37, 3) := by decide +kernel
theorem dX7_step_199 : decode cX7_step 199 = .ok (.iload 4, 2) := by decide +kernel
theorem dX7_step_201 : decode cX7_step 201 = .ok (.bipush 48, 2) := by decide +kernel
theorem dX7_step_203 : decode cX7_step 203 = .ok (.if_icmp .lt 43, 3) := by decide +kernel
theorem dX7_step_206 : decode cX7_step 206 = .ok (.iload 4, 2) := by decide +kernel
theorem dX7_step_208 : decode cX7_step 208 = .ok (.bipush 57, 2) := by decide +kernel
theorem dX7_step_210 : decode cX7_step 210 = .ok (.if_icmp .gt 36, 3) := by decide +kernel
theorem dX7_step_213 : decode cX7_step 213 = .ok (.iinc 3 1, 3) := by decide +kernel
theorem dX7_step_216 : decode cX7_step 216 = .ok (.aload_n 0, 1) := by decide +kernel
theorem dX7_step_217 : decode cX7_step 217 = .ok (.aload_n 0, 1) := by decide +kernel
theorem dX7_step_218 : decode cX7_step 218 = .ok (.getfield 38, 3) := by decide +kernel
theorem dX7_step_221 : decode cX7_step 221 = .ok (.bipush 10, 2) := by decide +kernel
theorem dX7_step_223 : decode cX7_step 223 = .ok (.imul, 1) := by decide +kernel
theorem dX7_step_224 : decode cX7_step 224 = .ok (.iload 4, 2) := by decide +kernel
theorem dX7_step_226 : decode cX7_step 226 = .ok (.bipush 48, 2) := by decide +kernel
theorem dX7_step_228 : decode cX7_step 228 = .ok (.isub, 1) := by decide +kernel
theorem dX7_step_229 : decode cX7_step 229 = .ok (.iadd, 1) := by decide +kernel
theorem dX7_step_230 : decode cX7_step 230 = .ok (.putfield 38, 3) := by decide +kernel
theorem dX7_step_233 : decode cX7_step 233 = .ok (.aload_n 0, 1) := by decide +kernel
theorem dX7_step_234 : decode cX7_step 234 = .ok (.dup, 1) := by decide +kernel
theorem dX7_step_235 : decode cX7_step 235 = .ok (.getfield 22, 3) := by decide +kernel
theorem dX7_step_238 : decode cX7_step 238 = .ok (.iconst 1, 1) := by decide +kernel
theorem dX7_step_239 : decode cX7_step 239 = .ok (.iadd, 1) := by decide +kernel
theorem dX7_step_240 : decode cX7_step 240 = .ok (.putfield 22, 3) := by decide +kernel
theorem dX7_step_243 : decode cX7_step 243 = .ok (.goto (-107), 3) := by decide +kernel
theorem dX7_step_246 : decode cX7_step 246 = .ok (.aload_n 0, 1) := by decide +kernel
theorem dX7_step_247 : decode cX7_step 247 = .ok (.iconst 1, 1) := by decide +kernel
theorem dX7_step_248 : decode cX7_step 248 = .ok (.putfield 31, 3) := by decide +kernel
theorem dX7_step_251 : decode cX7_step 251 = .ok (.iload_n 2, 1) := by decide +kernel
theorem dX7_step_252 : decode cX7_step 252 = .ok (.ifCond .ne 108, 3) := by decide +kernel
theorem dX7_step_255 : decode cX7_step 255 = .ok (.iload_n 3, 1) := by decide +kernel
theorem dX7_step_256 : decode cX7_step 256 = .ok (.ifCond .ne 104, 3) := by decide +kernel
theorem dX7_step_259 : decode cX7_step 259 = .ok (.aload_n 0, 1) := by decide +kernel
theorem dX7_step_260 : decode cX7_step 260 = .ok (.aload_n 0, 1) := by decide +kernel
theorem dX7_step_261 : decode cX7_step 261 = .ok (.getfield 9, 3) := by decide +kernel
theorem dX7_step_264 : decode cX7_step 264 = .ok (.aload_n 0, 1) := by decide +kernel
theorem dX7_step_265 : decode cX7_step 265 = .ok (.getfield 28, 3) := by decide +kernel
theorem dX7_step_268 : decode cX7_step 268 = .ok (.iaload, 1) := by decide +kernel
theorem dX7_step_269 : decode cX7_step 269 = .ok (.putfield 43, 3) := by decide +kernel
theorem dX7_step_272 : decode cX7_step 272 = .ok (.aload_n 0, 1) := by decide +kernel
theorem dX7_step_273 : decode cX7_step 273 = .ok (.aload_n 0, 1) := by decide +kernel
theorem dX7_step_274 : decode cX7_step 274 = .ok (.getfield 28, 3) := by decide +kernel
theorem dX7_step_277 : decode cX7_step 277 = .ok (.iconst 1, 1) := by decide +kernel
theorem dX7_step_278 : decode cX7_step 278 = .ok (.iadd, 1) := by decide +kernel
theorem dX7_step_279 : decode cX7_step 279 = .ok (.putfield 22, 3) := by decide +kernel
theorem dX7_step_282 : decode cX7_step 282 = .ok (.aload_n 0, 1) := by decide +kernel
theorem dX7_step_283 : decode cX7_step 283 = .ok (.getfield 43, 3) := by decide +kernel
theorem dX7_step_286 : decode cX7_step 286 = .ok (.bipush 60, 2) := by decide +kernel
theorem dX7_step_288 : decode cX7_step 288 = .ok (.if_icmp .eq 21, 3) := by decide +kernel
theorem dX7_step_291 : decode cX7_step 291 = .ok (.aload_n 0, 1) := by decide +kernel
theorem dX7_step_292 : decode cX7_step 292 = .ok (.getfield 43, 3) := by decide +kernel
theorem dX7_step_295 : decode cX7_step 295 = .ok (.bipush 61, 2) := by decide +kernel
theorem dX7_step_297 : decode cX7_step 297 = .ok (.if_icmp .eq 12, 3) := by decide +kernel
theorem dX7_step_300 : decode cX7_step 300 = .ok (.aload_n 0, 1) := by decide +kernel
theorem dX7_step_301 : decode cX7_step 301 = .ok (.getfield 43, 3) := by decide +kernel
theorem dX7_step_304 : decode cX7_step 304 = .ok (.bipush 62, 2) := by decide +kernel
theorem dX7_step_306 : decode cX7_step 306 = .ok (.if_icmp .ne 7, 3) := by decide +kernel
theorem dX7_step_309 : decode cX7_step 309 = .ok (.iconst 1, 1) := by decide +kernel
theorem dX7_step_310 : decode cX7_step 310 = .ok (.goto 4, 3) := by decide +kernel
theorem dX7_step_313 : decode cX7_step 313 = .ok (.iconst 0, 1) := by decide +kernel
theorem dX7_step_314 : decode cX7_step 314 = .ok (.istore 4, 2) := by decide +kernel
theorem dX7_step_316 : decode cX7_step 316 = .ok (.aload_n 0, 1) := by decide +kernel
theorem dX7_step_317 : decode cX7_step 317 = .ok (.iload 4, 2) := by decide +kernel
theorem dX7_step_319 : decode cX7_step 319 = .ok (.ifCond .ne 30, 3) := by decide +kernel
theorem dX7_step_322 : decode cX7_step 322 = .ok (.aload_n 0, 1) := by decide +kernel
theorem dX7_step_323 : decode cX7_step 323 = .ok (.getfield 43, 3) := by decide +kernel
theorem dX7_step_326 : decode cX7_step 326 = .ok (.bipush 59, 2) := by decide +kernel
theorem dX7_step_328 : decode cX7_step 328 = .ok (.if_icmp .eq 21, 3) := by decide +kernel
theorem dX7_step_331 : decode cX7_step 331 = .ok (.aload_n 0, 1) := by decide +kernel
theorem dX7_step_332 : decode cX7_step 332 = .ok (.getfield 43, 3) := by decide +kernel
theorem dX7_step_335 : decode cX7_step 335 = .ok (.bipush 40, 2) := by decide +kernel
theorem dX7_step_337 : decode cX7_step 337 = .ok (.if_icmp .eq 12, 3) := by decide +kernel
theorem dX7_step_340 : decode cX7_step 340 = .ok (.aload_n 0, 1) := by decide +kernel
theorem dX7_step_341 : decode cX7_step 341 = .ok (.getfield 43, 3) := by decide +kernel
theorem dX7_step_344 : decode cX7_step 344 = .ok (.bipush 41, 2) := by decide +kernel
theorem dX7_step_346 : decode cX7_step 346 = .ok (.if_icmp .ne 7, 3) := by decide +kernel
theorem dX7_step_349 : decode cX7_step 349 = .ok (.iconst 4, 1) := by decide +kernel
theorem dX7_step_350 : decode cX7_step 350 = .ok (.goto 4, 3) := by decide +kernel
theorem dX7_step_353 : decode cX7_step 353 = .ok (.iconst 1, 1) := by decide +kernel
theorem dX7_step_354 : decode cX7_step 354 = .ok (.putfield 31, 3) := by decide +kernel
theorem dX7_step_357 : decode cX7_step 357 = .ok (.goto 35, 3) := by decide +kernel
theorem dX7_step_360 : decode cX7_step 360 = .ok (.iload_n 3, 1) := by decide +kernel
theorem dX7_step_361 : decode cX7_step 361 = .ok (.ifCond .ne 17, 3) := by decide +kernel
theorem dX7_step_364 : decode cX7_step 364 = .ok (.iload_n 2, 1) := by decide +kernel
theorem dX7_step_365 : decode cX7_step 365 = .ok (.bipush 7, 2) := by decide +kernel
theorem dX7_step_367 : decode cX7_step 367 = .ok (.if_icmp .gt 11, 3) := by decide +kernel
theorem dX7_step_370 : decode cX7_step 370 = .ok (.aload_n 0, 1) := by decide +kernel
theorem dX7_step_371 : decode cX7_step 371 = .ok (.iconst 2, 1) := by decide +kernel
theorem dX7_step_372 : decode cX7_step 372 = .ok (.putfield 31, 3) := by decide +kernel
theorem dX7_step_375 : decode cX7_step 375 = .ok (.goto 17, 3) := by decide +kernel
theorem dX7_step_378 : decode cX7_step 378 = .ok (.iload_n 2, 1) := by decide +kernel
theorem dX7_step_379 : decode cX7_step 379 = .ok (.ifCond .ne 13, 3) := by decide +kernel
theorem dX7_step_382 : decode cX7_step 382 = .ok (.iload_n 3, 1) := by decide +kernel
theorem dX7_step_383 : decode cX7_step 383 = .ok (.iconst 2, 1) := by decide +kernel
theorem dX7_step_384 : decode cX7_step 384 = .ok (.if_icmp .gt 8, 3) := by decide +kernel
theorem dX7_step_387 : decode cX7_step 387 = .ok (.aload_n 0, 1) := by decide +kernel
theorem dX7_step_388 : decode cX7_step 388 = .ok (.iconst 3, 1) := by decide +kernel
theorem dX7_step_389 : decode cX7_step 389 = .ok (.putfield 31, 3) := by decide +kernel
theorem dX7_step_392 : decode cX7_step 392 = .ok (.return_, 1) := by decide +kernel
theorem dX7_open_0 : decode cX7_open 0 = .ok (.aload_n 0, 1) := by decide +kernel
theorem dX7_open_1 : decode cX7_open 1 = .ok (.iload_n 1, 1) := by decide +kernel
theorem dX7_open_2 : decode cX7_open 2 = .ok (.putfield 19, 3) := by decide +kernel
theorem dX7_open_5 : decode cX7_open 5 = .ok (.aload_n 0, 1) := by decide +kernel
theorem dX7_open_6 : decode cX7_open 6 = .ok (.iconst 0, 1) := by decide +kernel
theorem dX7_open_7 : decode cX7_open 7 = .ok (.putfield 22, 3) := by decide +kernel
theorem dX7_open_10 : decode cX7_open 10 = .ok (.aload_n 0, 1) := by decide +kernel
theorem dX7_open_11 : decode cX7_open 11 = .ok (.invokevirtual 25, 3) := by decide +kernel
theorem dX7_open_14 : decode cX7_open 14 = .ok (.return_, 1) := by decide +kernel
theorem dX7_is_0 : decode cX7_is 0 = .ok (.aload_n 0, 1) := by decide +kernel
theorem dX7_is_1 : decode cX7_is 1 = .ok (.getfield 31, 3) := by decide +kernel
theorem dX7_is_4 : decode cX7_is 4 = .ok (.iconst 2, 1) := by decide +kernel
theorem dX7_is_5 : decode cX7_is 5 = .ok (.if_icmp .ne 19, 3) := by decide +kernel
theorem dX7_is_8 : decode cX7_is 8 = .ok (.aload_n 0, 1) := by decide +kernel
theorem dX7_is_9 : decode cX7_is 9 = .ok (.getfield 34, 3) := by decide +kernel
theorem dX7_is_12 : decode cX7_is 12 = .ok (.aload_n 1, 1) := by decide +kernel
theorem dX7_is_13 : decode cX7_is 13 = .ok (.getfield 46, 3) := by decide +kernel
theorem dX7_is_16 : decode cX7_is 16 = .ok (.lcmp, 1) := by decide +kernel
theorem dX7_is_17 : decode cX7_is 17 = .ok (.ifCond .ne 7, 3) := by decide +kernel
theorem dX7_is_20 : decode cX7_is 20 = .ok (.iconst 1, 1) := by decide +kernel
theorem dX7_is_21 : decode cX7_is 21 = .ok (.goto 4, 3) := by decide +kernel
theorem dX7_is_24 : decode cX7_is 24 = .ok (.iconst 0, 1) := by decide +kernel
theorem dX7_is_25 : decode cX7_is 25 = .ok (.ireturn, 1) := by decide +kernel
theorem dX7_isSigned_0 : decode cX7_isSigned 0 = .ok (.aload_n 0, 1) := by decide +kernel
theorem dX7_isSigned_1 : decode cX7_isSigned 1 = .ok (.getfield 31, 3) := by decide +kernel
theorem dX7_isSigned_4 : decode cX7_isSigned 4 = .ok (.iconst 4, 1) := by decide +kernel
theorem dX7_isSigned_5 : decode cX7_isSigned 5 = .ok (.if_icmp .ne 15, 3) := by decide +kernel
theorem dX7_isSigned_8 : decode cX7_isSigned 8 = .ok (.aload_n 0, 1) := by decide +kernel
theorem dX7_isSigned_9 : decode cX7_isSigned 9 = .ok (.getfield 43, 3) := by decide +kernel
theorem dX7_isSigned_12 : decode cX7_isSigned 12 = .ok (.iload_n 1, 1) := by decide +kernel
theorem dX7_isSigned_13 : decode cX7_isSigned 13 = .ok (.if_icmp .ne 7, 3) := by decide +kernel
theorem dX7_isSigned_16 : decode cX7_isSigned 16 = .ok (.iconst 1, 1) := by decide +kernel
theorem dX7_isSigned_17 : decode cX7_isSigned 17 = .ok (.goto 4, 3) := by decide +kernel
theorem dX7_isSigned_20 : decode cX7_isSigned 20 = .ok (.iconst 0, 1) := by decide +kernel
theorem dX7_isSigned_21 : decode cX7_isSigned 21 = .ok (.ireturn, 1) := by decide +kernel
