theorem dX11_bit_0 : decode cX11_bit 0 = .ok (.iload_n 0, 1) := by decide +kernel
theorem dX11_bit_1 : decode cX11_bit 1 = .ok (.iload_n 1, 1) := by decide +kernel
theorem dX11_bit_2 : decode cX11_bit 2 = .ok (.ishr, 1) := by decide +kernel
theorem dX11_bit_3 : decode cX11_bit 3 = .ok (.iconst 1, 1) := by decide +kernel
theorem dX11_bit_4 : decode cX11_bit 4 = .ok (.iand, 1) := by decide +kernel
theorem dX11_bit_5 : decode cX11_bit 5 = .ok (.ireturn, 1) := by decide +kernel
theorem dX2_everyone_0 : decode cX2_everyone 0 = .ok (.iconst 1, 1) := by decide +kernel
theorem dX2_everyone_1 : decode cX2_everyone 1 = .ok (.aload_n 0, 1) := by decide +kernel
theorem dX2_everyone_2 : decode cX2_everyone 2 = .ok (.getfield 44, 3) := by decide +kernel
theorem dX2_everyone_5 : decode cX2_everyone 5 = .ok (.ishl, 1) := by decide +kernel
theorem dX2_everyone_6 : decode cX2_everyone 6 = .ok (.iconst 1, 1) := by decide +kernel
theorem dX2_everyone_7 : decode cX2_everyone 7 = .ok (.isub, 1) := by decide +kernel
theorem dX2_everyone_8 : decode cX2_everyone 8 = .ok (.ireturn, 1) := by decide +kernel
theorem dX10_hasMan_0 : decode cX10_hasMan 0 = .ok (.iload_n 1, 1) := by decide +kernel
theorem dX10_hasMan_1 : decode cX10_hasMan 1 = .ok (.ifCond .lt 18, 3) := by decide +kernel
theorem dX10_hasMan_4 : decode cX10_hasMan 4 = .ok (.iload_n 1, 1) := by decide +kernel
theorem dX10_hasMan_5 : decode cX10_hasMan 5 = .ok (.aload_n 0, 1) := by decide +kernel
theorem dX10_hasMan_6 : decode cX10_hasMan 6 = .ok (.getfield 12, 3) := by decide +kernel
theorem dX10_hasMan_9 : decode cX10_hasMan 9 = .ok (.getfield 49, 3) := by decide +kernel
theorem dX10_hasMan_12 : decode cX10_hasMan 12 = .ok (.if_icmp .ge 7, 3) := by decide +kernel
theorem dX10_hasMan_15 : decode cX10_hasMan 15 = .ok (.iconst 1, 1) := by decide +kernel
theorem dX10_hasMan_16 : decode cX10_hasMan 16 = .ok (.goto 4, 3) := by decide +kernel
theorem dX10_hasMan_19 : decode cX10_hasMan 19 = .ok (.iconst 0, 1) := by decide +kernel
theorem dX10_hasMan_20 : decode cX10_hasMan 20 = .ok (.ireturn, 1) := by decide +kernel
theorem dX10_hasAsk_0 : decode cX10_hasAsk 0 = .ok (.iload_n 1, 1) := by decide +kernel
theorem dX10_hasAsk_1 : decode cX10_hasAsk 1 = .ok (.ifCond .lt 18, 3) := by decide +kernel
theorem dX10_hasAsk_4 : decode cX10_hasAsk 4 = .ok (.iload_n 1, 1) := by decide +kernel
theorem dX10_hasAsk_5 : decode cX10_hasAsk 5 = .ok (.aload_n 0, 1) := by decide +kernel
theorem dX10_hasAsk_6 : decode cX10_hasAsk 6 = .ok (.getfield 12, 3) := by decide +kernel
theorem dX10_hasAsk_9 : decode cX10_hasAsk 9 = .ok (.getfield 52, 3) := by decide +kernel
theorem dX10_hasAsk_12 : decode cX10_hasAsk 12 = .ok (.if_icmp .ge 7, 3) := by decide +kernel
theorem dX10_hasAsk_15 : decode cX10_hasAsk 15 = .ok (.iconst 1, 1) := by decide +kernel
theorem dX10_hasAsk_16 : decode cX10_hasAsk 16 = .ok (.goto 4, 3) := by decide +kernel
theorem dX10_hasAsk_19 : decode cX10_hasAsk 19 = .ok (.iconst 0, 1) := by decide +kernel
theorem dX10_hasAsk_20 : decode cX10_hasAsk 20 = .ok (.ireturn, 1) := by decide +kernel
theorem dX10_isLevel_0 : decode cX10_isLevel 0 = .ok (.iload_n 1, 1) := by decide +kernel
theorem dX10_isLevel_1 : decode cX10_isLevel 1 = .ok (.aload_n 0, 1) := by decide +kernel
theorem dX10_isLevel_2 : decode cX10_isLevel 2 = .ok (.getfield 12, 3) := by decide +kernel
theorem dX10_isLevel_5 : decode cX10_isLevel 5 = .ok (.getfield 97, 3) := by decide +kernel
theorem dX10_isLevel_8 : decode cX10_isLevel 8 = .ok (.if_icmp .gt 19, 3) := by decide +kernel
theorem dX10_isLevel_11 : decode cX10_isLevel 11 = .ok (.iload_n 1, 1) := by decide +kernel
theorem dX10_isLevel_12 : decode cX10_isLevel 12 = .ok (.aload_n 0, 1) := by decide +kernel
theorem dX10_isLevel_13 : decode cX10_isLevel 13 = .ok (.getfield 12, 3) := by decide +kernel
theorem dX10_isLevel_16 : decode cX10_isLevel 16 = .ok (.getfield 97, 3) := by decide +kernel
theorem dX10_isLevel_19 : decode cX10_isLevel 19 = .ok (.ineg, 1) := by decide +kernel
theorem dX10_isLevel_20 : decode cX10_isLevel 20 = .ok (.if_icmp .lt 7, 3) := by decide +kernel
theorem dX10_isLevel_23 : decode cX10_isLevel 23 = .ok (.iconst 1, 1) := by decide +kernel
theorem dX10_isLevel_24 : decode cX10_isLevel 24 = .ok (.goto 4, 3) := by decide +kernel
theorem dX10_isLevel_27 : decode cX10_isLevel 27 = .ok (.iconst 0, 1) := by decide +kernel
theorem dX10_isLevel_28 : decode cX10_isLevel 28 = .ok (.ireturn, 1) := by decide +kernel
theorem dX10_here_0 : decode cX10_here 0 = .ok (.aload_n 0, 1) := by decide +kernel
theorem dX10_here_1 : decode cX10_here 1 = .ok (.getfield 21, 3) := by decide +kernel
theorem dX10_here_4 : decode cX10_here 4 = .ok (.getfield 59, 3) := by decide +kernel
theorem dX10_here_7 : decode cX10_here 7 = .ok (.iconst 1, 1) := by decide +kernel
theorem dX10_here_8 : decode cX10_here 8 = .ok (.if_icmp .ne 13, 3) := by decide +kernel
theorem dX10_here_11 : decode cX10_here 11 = .ok (.aload_n 0, 1) := by decide +kernel
theorem dX10_here_12 : decode cX10_here 12 = .ok (.getfield 21, 3) := by decide +kernel
theorem dX10_here_15 : decode cX10_here 15 = .ok (.getfield 62, 3) := by decide +kernel
theorem dX10_here_18 : decode cX10_here 18 = .ok (.goto 20, 3) := by decide +kernel
theorem dX10_here_21 : decode cX10_here 21 = .ok (.aload_n 0, 1) := by decide +kernel
theorem dX10_here_22 : decode cX10_here 22 = .ok (.getfield 12, 3) := by decide +kernel
theorem dX10_here_25 : decode cX10_here 25 = .ok (.invokevirtual 55, 3) := by decide +kernel
theorem dX10_here_28 : decode cX10_here 28 = .ok (.aload_n 0, 1) := by decide +kernel
theorem dX10_here_29 : decode cX10_here 29 = .ok (.getfield 21, 3) := by decide +kernel
theorem dX10_here_32 : decode cX10_here 32 = .ok (.getfield 62, 3) := by decide +kernel
theorem dX10_here_35 : decode cX10_here 35 = .ok (.iconst (-1), 1) := by decide +kernel
theorem dX10_here_36 : decode cX10_here 36 = .ok (.ixor, 1) := by decide +kernel
theorem dX10_here_37 : decode cX10_here 37 = .ok (.iand, 1) := by decide +kernel
theorem dX10_here_38 : decode cX10_here 38 = .ok (.ireturn, 1) := by decide +kernel
theorem dX7_addNumber_0 : decode cX7_addNumber 0 = .ok (.aload_n 0, 1) := by decide +kernel
theorem dX7_addNumber_1 : decode cX7_addNumber 1 = .ok (.getfield 15, 3) := by decide +kernel
theorem dX7_addNumber_4 : decode cX7_addNumber 4 = .ok (.iconst 4, 1) := by decide +kernel
theorem dX7_addNumber_5 : decode cX7_addNumber 5 = .ok (.iadd, 1) := by decide +kernel
theorem dX7_addNumber_6 : decode cX7_addNumber 6 = .ok (.sipush 940, 3) := by decide +kernel
theorem dX7_addNumber_9 : decode cX7_addNumber 9 = .ok (.if_icmp .le 4, 3) := by decide +kernel
theorem dX7_addNumber_12 : decode cX7_addNumber 12 = .ok (.return_, 1) := by decide +kernel
theorem dX7_addNumber_13 : decode cX7_addNumber 13 = .ok (.bipush 24, 2) := by decide +kernel
theorem dX7_addNumber_15 : decode cX7_addNumber 15 = .ok (.istore_n 2, 1) := by decide +kernel
theorem dX7_addNumber_16 : decode cX7_addNumber 16 = .ok (.iload_n 2, 1) := by decide +kernel
theorem dX7_addNumber_17 : decode cX7_addNumber 17 = .ok (.ifCond .lt 35, 3) := by decide +kernel
theorem dX7_addNumber_20 : decode cX7_addNumber 20 = .ok (.aload_n 0, 1) := by decide +kernel
theorem dX7_addNumber_21 : decode cX7_addNumber 21 = .ok (.getfield 9, 3) := by decide +kernel
theorem dX7_addNumber_24 : decode cX7_addNumber 24 = .ok (.aload_n 0, 1) := by decide +kernel
theorem dX7_addNumber_25 : decode cX7_addNumber 25 = .ok (.getfield 15, 3) := by decide +kernel
theorem dX7_addNumber_28 : decode cX7_addNumber 28 = .ok (.iload_n 1, 1) := by decide +kernel
theorem dX7_addNumber_29 : decode cX7_addNumber 29 = .ok (.iload_n 2, 1) := by decide +kernel
theorem dX7_addNumber_30 : decode cX7_addNumber 30 = .ok (.iushr, 1) := by decide +kernel
theorem dX7_addNumber_31 : decode cX7_addNumber 31 = .ok (.sipush 255, 3) := by decide +kernel
theorem dX7_addNumber_34 : decode cX7_addNumber 34 = .ok (.iand, 1) := by decide +kernel
theorem dX7_addNumber_35 : decode cX7_addNumber 35 = .ok (.iastore, 1) := by decide +kernel
theorem dX7_addNumber_36 : decode cX7_addNumber 36 = .ok (.aload_n 0, 1) := by decide +kernel
theorem dX7_addNumber_37 : decode cX7_addNumber 37 = .ok (.dup, 1) := by decide +kernel
theorem dX7_addNumber_38 : decode cX7_addNumber 38 = .ok (.getfield 15, 3) := by decide +kernel
theorem dX7_addNumber_41 : decode cX7_addNumber 41 = .ok (.iconst 1, 1) := by decide +kernel
theorem dX7_addNumber_42 : decode cX7_addNumber 42 = .ok (.iadd, 1) := by decide +kernel
theorem dX7_addNumber_43 : decode cX7_addNumber 43 = .ok (.putfield 15, 3) := by decide +kernel
theorem dX7_addNumber_46 : decode cX7_addNumber 46 = .ok (.iinc 2 (-8), 3) := by decide +kernel
theorem dX7_addNumber_49 : decode cX7_addNumber 49 = .ok (.goto (-33), 3) := by decide +kernel
theorem dX7_addNumber_52 : decode cX7_addNumber 52 = .ok (.return_, 1) := by decide +kernel
