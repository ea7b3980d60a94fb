theorem dX12_keep_0 : decode cX12_keep 0 = .ok (.aload_n 0, 1) := by decide +kernel
theorem dX12_keep_1 : decode cX12_keep 1 = .ok (.getfield 249, 3) := by decide +kernel
theorem dX12_keep_4 : decode cX12_keep 4 = .ok (.bipush 8, 2) := by decide +kernel
theorem dX12_keep_6 : decode cX12_keep 6 = .ok (.if_icmp .ne 40, 3) := by decide +kernel
theorem dX12_keep_9 : decode cX12_keep 9 = .ok (.iconst 0, 1) := by decide +kernel
theorem dX12_keep_10 : decode cX12_keep 10 = .ok (.istore_n 1, 1) := by decide +kernel
theorem dX12_keep_11 : decode cX12_keep 11 = .ok (.iload_n 1, 1) := by decide +kernel
theorem dX12_keep_12 : decode cX12_keep 12 = .ok (.sipush 1449, 3) := by decide +kernel
theorem dX12_keep_15 : decode cX12_keep 15 = .ok (.if_icmp .ge 25, 3) := by decide +kernel
theorem dX12_keep_18 : decode cX12_keep 18 = .ok (.aload_n 0, 1) := by decide +kernel
theorem dX12_keep_19 : decode cX12_keep 19 = .ok (.getfield 50, 3) := by decide +kernel
theorem dX12_keep_22 : decode cX12_keep 22 = .ok (.iload_n 1, 1) := by decide +kernel
theorem dX12_keep_23 : decode cX12_keep 23 = .ok (.aload_n 0, 1) := by decide +kernel
theorem dX12_keep_24 : decode cX12_keep 24 = .ok (.getfield 50, 3) := by decide +kernel
theorem dX12_keep_27 : decode cX12_keep 27 = .ok (.iload_n 1, 1) := by decide +kernel
theorem dX12_keep_28 : decode cX12_keep 28 = .ok (.sipush 207, 3) := by decide +kernel
theorem dX12_keep_31 : decode cX12_keep 31 = .ok (.iadd, 1) := by decide +kernel
theorem dX12_keep_32 : decode cX12_keep 32 = .ok (.iaload, 1) := by decide +kernel
theorem dX12_keep_33 : decode cX12_keep 33 = .ok (.iastore, 1) := by decide +kernel
theorem dX12_keep_34 : decode cX12_keep 34 = .ok (.iinc 1 1, 3) := by decide +kernel
theorem dX12_keep_37 : decode cX12_keep 37 = .ok (.goto (-26), 3) := by decide +kernel
theorem dX12_keep_40 : decode cX12_keep 40 = .ok (.aload_n 0, 1) := by decide +kernel
theorem dX12_keep_41 : decode cX12_keep 41 = .ok (.bipush 7, 2) := by decide +kernel
theorem dX12_keep_43 : decode cX12_keep 43 = .ok (.putfield 249, 3) := by decide +kernel
theorem dX12_keep_46 : decode cX12_keep 46 = .ok (.iconst 0, 1) := by decide +kernel
theorem dX12_keep_47 : decode cX12_keep 47 = .ok (.istore_n 1, 1) := by decide +kernel
theorem dX12_keep_48 : decode cX12_keep 48 = .ok (.iload_n 1, 1) := by decide +kernel
theorem dX12_keep_49 : decode cX12_keep 49 = .ok (.sipush 207, 3) := by decide +kernel
theorem dX12_keep_52 : decode cX12_keep 52 = .ok (.if_icmp .ge 33, 3) := by decide +kernel
theorem dX12_keep_55 : decode cX12_keep 55 = .ok (.aload_n 0, 1) := by decide +kernel
theorem dX12_keep_56 : decode cX12_keep 56 = .ok (.getfield 50, 3) := by decide +kernel
theorem dX12_keep_59 : decode cX12_keep 59 = .ok (.sipush 207, 3) := by decide +kernel
theorem dX12_keep_62 : decode cX12_keep 62 = .ok (.aload_n 0, 1) := by decide +kernel
theorem dX12_keep_63 : decode cX12_keep 63 = .ok (.getfield 249, 3) := by decide +kernel
theorem dX12_keep_66 : decode cX12_keep 66 = .ok (.imul, 1) := by decide +kernel
theorem dX12_keep_67 : decode cX12_keep 67 = .ok (.iload_n 1, 1) := by decide +kernel
theorem dX12_keep_68 : decode cX12_keep 68 = .ok (.iadd, 1) := by decide +kernel
theorem dX12_keep_69 : decode cX12_keep 69 = .ok (.aload_n 0, 1) := by decide +kernel
theorem dX12_keep_70 : decode cX12_keep 70 = .ok (.getfield 33, 3) := by decide +kernel
theorem dX12_keep_73 : decode cX12_keep 73 = .ok (.bipush 125, 2) := by decide +kernel
theorem dX12_keep_75 : decode cX12_keep 75 = .ok (.iload_n 1, 1) := by decide +kernel
theorem dX12_keep_76 : decode cX12_keep 76 = .ok (.iadd, 1) := by decide +kernel
theorem dX12_keep_77 : decode cX12_keep 77 = .ok (.iaload, 1) := by decide +kernel
theorem dX12_keep_78 : decode cX12_keep 78 = .ok (.iastore, 1) := by decide +kernel
theorem dX12_keep_79 : decode cX12_keep 79 = .ok (.iinc 1 1, 3) := by decide +kernel
theorem dX12_keep_82 : decode cX12_keep 82 = .ok (.goto (-34), 3) := by decide +kernel
theorem dX12_keep_85 : decode cX12_keep 85 = .ok (.aload_n 0, 1) := by decide +kernel
theorem dX12_keep_86 : decode cX12_keep 86 = .ok (.dup, 1) := by decide +kernel
theorem dX12_keep_87 : decode cX12_keep 87 = .ok (.getfield 249, 3) := by decide +kernel
theorem dX12_keep_90 : decode cX12_keep 90 = .ok (.iconst 1, 1) := by decide +kernel
theorem dX12_keep_91 : decode cX12_keep 91 = .ok (.iadd, 1) := by decide +kernel
theorem dX12_keep_92 : decode cX12_keep 92 = .ok (.putfield 249, 3) := by decide +kernel
theorem dX12_keep_95 : decode cX12_keep 95 = .ok (.return_, 1) := by decide +kernel
theorem dX12_undo_0 : decode cX12_undo 0 = .ok (.aload_n 0, 1) := by decide +kernel
theorem dX12_undo_1 : decode cX12_undo 1 = .ok (.iconst 0, 1) := by decide +kernel
theorem dX12_undo_2 : decode cX12_undo 2 = .ok (.putfield 1, 3) := by decide +kernel
theorem dX12_undo_5 : decode cX12_undo 5 = .ok (.aload_n 0, 1) := by decide +kernel
theorem dX12_undo_6 : decode cX12_undo 6 = .ok (.getfield 249, 3) := by decide +kernel
theorem dX12_undo_9 : decode cX12_undo 9 = .ok (.ifCond .ne 5, 3) := by decide +kernel
theorem dX12_undo_12 : decode cX12_undo 12 = .ok (.iconst (-1), 1) := by decide +kernel
theorem dX12_undo_13 : decode cX12_undo 13 = .ok (.ireturn, 1) := by decide +kernel
theorem dX12_undo_14 : decode cX12_undo 14 = .ok (.aload_n 0, 1) := by decide +kernel
theorem dX12_undo_15 : decode cX12_undo 15 = .ok (.dup, 1) := by decide +kernel
theorem dX12_undo_16 : decode cX12_undo 16 = .ok (.getfield 249, 3) := by decide +kernel
theorem dX12_undo_19 : decode cX12_undo 19 = .ok (.iconst 1, 1) := by decide +kernel
theorem dX12_undo_20 : decode cX12_undo 20 = .ok (.isub, 1) := by decide +kernel
theorem dX12_undo_21 : decode cX12_undo 21 = .ok (.putfield 249, 3) := by decide +kernel
theorem dX12_undo_24 : decode cX12_undo 24 = .ok (.iconst 0, 1) := by decide +kernel
theorem dX12_undo_25 : decode cX12_undo 25 = .ok (.istore_n 1, 1) := by decide +kernel
theorem dX12_undo_26 : decode cX12_undo 26 = .ok (.iload_n 1, 1) := by decide +kernel
theorem dX12_undo_27 : decode cX12_undo 27 = .ok (.sipush 207, 3) := by decide +kernel
theorem dX12_undo_30 : decode cX12_undo 30 = .ok (.if_icmp .ge 33, 3) := by decide +kernel
theorem dX12_undo_33 : decode cX12_undo 33 = .ok (.aload_n 0, 1) := by decide +kernel
theorem dX12_undo_34 : decode cX12_undo 34 = .ok (.getfield 33, 3) := by decide +kernel
theorem dX12_undo_37 : decode cX12_undo 37 = .ok (.bipush 125, 2) := by decide +kernel
theorem dX12_undo_39 : decode cX12_undo 39 = .ok (.iload_n 1, 1) := by decide +kernel
theorem dX12_undo_40 : decode cX12_undo 40 = .ok (.iadd, 1) := by decide +kernel
theorem dX12_undo_41 : decode cX12_undo 41 = .ok (.aload_n 0, 1) := by decide +kernel
theorem dX12_undo_42 : decode cX12_undo 42 = .ok (.getfield 50, 3) := by decide +kernel
theorem dX12_undo_45 : decode cX12_undo 45 = .ok (.sipush 207, 3) := by decide +kernel
theorem dX12_undo_48 : decode cX12_undo 48 = .ok (.aload_n 0, 1) := by decide +kernel
theorem dX12_undo_49 : decode cX12_undo 49 = .ok (.getfield 249, 3) := by decide +kernel
theorem dX12_undo_52 : decode cX12_undo 52 = .ok (.imul, 1) := by decide +kernel
theorem dX12_undo_53 : decode cX12_undo 53 = .ok (.iload_n 1, 1) := by decide +kernel
theorem dX12_undo_54 : decode cX12_undo 54 = .ok (.iadd, 1) := by decide +kernel
theorem dX12_undo_55 : decode cX12_undo 55 = .ok (.iaload, 1) := by decide +kernel
theorem dX12_undo_56 : decode cX12_undo 56 = .ok (.iastore, 1) := by decide +kernel
theorem dX12_undo_57 : decode cX12_undo 57 = .ok (.iinc 1 1, 3) := by decide +kernel
theorem dX12_undo_60 : decode cX12_undo 60 = .ok (.goto (-34), 3) := by decide +kernel
theorem dX12_undo_63 : decode cX12_undo 63 = .ok (.aload_n 0, 1) := by decide +kernel
theorem dX12_undo_64 : decode cX12_undo 64 = .ok (.getfield 249, 3) := by decide +kernel
theorem dX12_undo_67 : decode cX12_undo 67 = .ok (.ireturn, 1) := by decide +kernel
theorem dX12_tries_0 : decode cX12_tries 0 = .ok (.iconst 0, 1) := by decide +kernel
theorem dX12_tries_1 : decode cX12_tries 1 = .ok (.istore_n 1, 1) := by decide +kernel
theorem dX12_tries_2 : decode cX12_tries 2 = .ok (.iload_n 1, 1) := by decide +kernel
theorem dX12_tries_3 : decode cX12_tries 3 = .ok (.sipush 207, 3) := by decide +kernel
theorem dX12_tries_6 : decode cX12_tries 6 = .ok (.if_icmp .ge 24, 3) := by decide +kernel
theorem dX12_tries_9 : decode cX12_tries 9 = .ok (.aload_n 0, 1) := by decide +kernel
theorem dX12_tries_10 : decode cX12_tries 10 = .ok (.getfield 53, 3) := by decide +kernel
theorem dX12_tries_13 : decode cX12_tries 13 = .ok (.iload_n 1, 1) := by decide +kernel
theorem dX12_tries_14 : decode cX12_tries 14 = .ok (.aload_n 0, 1) := by decide +kernel
theorem dX12_tries_15 : decode cX12_tries 15 = .ok (.getfield 33, 3) := by decide +kernel
theorem dX12_tries_18 : decode cX12_tries 18 = .ok (.bipush 125, 2) := by decide +kernel
theorem dX12_tries_20 : decode cX12_tries 20 = .ok (.iload_n 1, 1) := by decide +kernel
theorem dX12_tries_21 : decode cX12_tries 21 = .ok (.iadd, 1) := by decide +kernel
theorem dX12_tries_22 : decode cX12_tries 22 = .ok (.iaload, 1) := by decide +kernel
theorem dX12_tries_23 : decode cX12_tries 23 = .ok (.iastore, 1) := by decide +kernel
theorem dX12_tries_24 : decode cX12_tries 24 = .ok (.iinc 1 1, 3) := by decide +kernel
theorem dX12_tries_27 : decode cX12_tries 27 = .ok (.goto (-25), 3) := by decide +kernel
theorem dX12_tries_30 : decode cX12_tries 30 = .ok (.return_, 1) := by decide +kernel
theorem dX12_back_0 : decode cX12_back 0 = .ok (.iconst 0, 1) := by decide +kernel
theorem dX12_back_1 : decode cX12_back 1 = .ok (.istore_n 1, 1) := by decide +kernel
theorem dX12_back_2 : decode cX12_back 2 = .ok (.iload_n 1, 1) := by decide +kernel
theorem dX12_back_3 : decode cX12_back 3 = .ok (.sipush 207, 3) := by decide +kernel
theorem dX12_back_6 : decode cX12_back 6 = .ok (.if_icmp .ge 24, 3) := by decide +kernel
theorem dX12_back_9 : decode cX12_back 9 = .ok (.aload_n 0, 1) := by decide +kernel
theorem dX12_back_10 : decode cX12_back 10 = .ok (.getfield 33, 3) := by decide +kernel
theorem dX12_back_13 : decode cX12_back 13 = .ok (.bipush 125, 2) := by decide +kernel
theorem dX12_back_15 : decode cX12_back 15 = .ok (.iload_n 1, 1) := by decide +kernel
theorem dX12_back_16 : decode cX12_back 16 = .ok (.iadd, 1) := by decide +kernel
theorem dX12_back_17 : decode cX12_back 17 = .ok (.aload_n 0, 1) := by decide +kernel
theorem dX12_back_18 : decode cX12_back 18 = .ok (.getfield 53, 3) := by decide +kernel
theorem dX12_back_21 : decode cX12_back 21 = .ok (.iload_n 1, 1) := by decide +kernel
theorem dX12_back_22 : decode cX12_back 22 = .ok (.iaload, 1) := by decide +kernel
theorem dX12_back_23 : decode cX12_back 23 = .ok (.iastore, 1) := by decide +kernel
theorem dX12_back_24 : decode cX12_back 24 = .ok (.iinc 1 1, 3) := by decide +kernel
theorem dX12_back_27 : decode cX12_back 27 = .ok (.goto (-25), 3) := by decide +kernel
theorem dX12_back_30 : decode cX12_back 30 = .ok (.return_, 1) := by decide +kernel
theorem dX12_sum_0 : decode cX12_sum 0 = .ok (.aload_n 0, 1) := by decide +kernel
theorem dX12_sum_1 : decode cX12_sum 1 = .ok (.aload_n 0, 1) := by decide +kernel
theorem dX12_sum_2 : decode cX12_sum 2 = .ok (.iload_n 1, 1) := by decide +kernel
theorem dX12_sum_3 : decode cX12_sum 3 = .ok (.invokevirtual 296, 3) := by decide +kernel
theorem dX12_sum_6 : decode cX12_sum 6 = .ok (.ifCond .eq 12, 3) := by decide +kernel
theorem dX12_sum_9 : decode cX12_sum 9 = .ok (.aload_n 0, 1) := by decide +kernel
theorem dX12_sum_10 : decode cX12_sum 10 = .ok (.getfield 33, 3) := by decide +kernel
theorem dX12_sum_13 : decode cX12_sum 13 = .ok (.iconst 0, 1) := by decide +kernel
theorem dX12_sum_14 : decode cX12_sum 14 = .ok (.iaload, 1) := by decide +kernel
theorem dX12_sum_15 : decode cX12_sum 15 = .ok (.ifCond .ne 7, 3) := by decide +kernel
theorem dX12_sum_18 : decode cX12_sum 18 = .ok (.iconst 1, 1) := by decide +kernel
theorem dX12_sum_19 : decode cX12_sum 19 = .ok (.goto 4, 3) := by decide +kernel
theorem dX12_sum_22 : decode cX12_sum 22 = .ok (.iconst 0, 1) := by decide +kernel
theorem dX12_sum_23 : decode cX12_sum 23 = .ok (.invokevirtual 255, 3) := by decide +kernel
theorem dX12_sum_26 : decode cX12_sum 26 = .ok (.ifCond .eq 7, 3) := by decide +kernel
theorem dX12_sum_29 : decode cX12_sum 29 = .ok (.iconst 0, 1) := by decide +kernel
theorem dX12_sum_30 : decode cX12_sum 30 = .ok (.goto 15, 3) := by decide +kernel
theorem dX12_sum_33 : decode cX12_sum 33 = .ok (.aload_n 0, 1) := by decide +kernel
theorem dX12_sum_34 : decode cX12_sum 34 = .ok (.iload_n 1, 1) := by decide +kernel
theorem dX12_sum_35 : decode cX12_sum 35 = .ok (.aload_n 0, 1) := by decide +kernel
theorem dX12_sum_36 : decode cX12_sum 36 = .ok (.getfield 33, 3) := by decide +kernel
theorem dX12_sum_39 : decode cX12_sum 39 = .ok (.bipush 126, 2) := by decide +kernel
theorem dX12_sum_41 : decode cX12_sum 41 = .ok (.iaload, 1) := by decide +kernel
theorem dX12_sum_42 : decode cX12_sum 42 = .ok (.invokevirtual 287, 3) := by decide +kernel
theorem dX12_sum_45 : decode cX12_sum 45 = .ok (.ireturn, 1) := by decide +kernel
theorem dX12_crews_0 : decode cX12_crews 0 = .ok (.aload_n 0, 1) := by decide +kernel
theorem dX12_crews_1 : decode cX12_crews 1 = .ok (.iconst 0, 1) := by decide +kernel
theorem dX12_crews_2 : decode cX12_crews 2 = .ok (.putfield 1, 3) := by decide +kernel
theorem dX12_crews_5 : decode cX12_crews 5 = .ok (.iload_n 1, 1) := by decide +kernel
theorem dX12_crews_6 : decode cX12_crews 6 = .ok (.iconst (-1), 1) := by decide +kernel
theorem dX12_crews_7 : decode cX12_crews 7 = .ok (.if_icmp .ge 5, 3) := by decide +kernel
theorem dX12_crews_10 : decode cX12_crews 10 = .ok (.iconst (-1), 1) := by decide +kernel
theorem dX12_crews_11 : decode cX12_crews 11 = .ok (.ireturn, 1) := by decide +kernel
theorem dX12_crews_12 : decode cX12_crews 12 = .ok (.iconst 0, 1) := by decide +kernel
theorem dX12_crews_13 : decode cX12_crews 13 = .ok (.istore_n 2, 1) := by decide +kernel
theorem dX12_crews_14 : decode cX12_crews 14 = .ok (.iconst 1, 1) := by decide +kernel
theorem dX12_crews_15 : decode cX12_crews 15 = .ok (.istore_n 3, 1) := by decide +kernel
theorem dX12_crews_16 : decode cX12_crews 16 = .ok (.iload_n 3, 1) := by decide +kernel
theorem dX12_crews_17 : decode cX12_crews 17 = .ok (.iconst 1, 1) := by decide +kernel
theorem dX12_crews_18 : decode cX12_crews 18 = .ok (.aload_n 0, 1) := by decide +kernel
theorem dX12_crews_19 : decode cX12_crews 19 = .ok (.getfield 33, 3) := by decide +kernel
theorem dX12_crews_22 : decode cX12_crews 22 = .ok (.iconst 1, 1) := by decide +kernel
theorem dX12_crews_23 : decode cX12_crews 23 = .ok (.iaload, 1) := by decide +kernel
theorem dX12_crews_24 : decode cX12_crews 24 = .ok (.ishl, 1) := by decide +kernel
theorem dX12_crews_25 : decode cX12_crews 25 = .ok (.if_icmp .ge 30, 3) := by decide +kernel
theorem dX12_crews_28 : decode cX12_crews 28 = .ok (.aload_n 0, 1) := by decide +kernel
theorem dX12_crews_29 : decode cX12_crews 29 = .ok (.iload_n 3, 1) := by decide +kernel
theorem dX12_crews_30 : decode cX12_crews 30 = .ok (.invokevirtual 299, 3) := by decide +kernel
theorem dX12_crews_33 : decode cX12_crews 33 = .ok (.ifCond .le 6, 3) := by decide +kernel
theorem dX12_crews_36 : decode cX12_crews 36 = .ok (.goto 13, 3) := by decide +kernel
theorem dX12_crews_39 : decode cX12_crews 39 = .ok (.iload_n 2, 1) := by decide +kernel
theorem dX12_crews_40 : decode cX12_crews 40 = .ok (.iload_n 1, 1) := by decide +kernel
theorem dX12_crews_41 : decode cX12_crews 41 = .ok (.if_icmp .ne 5, 3) := by decide +kernel
theorem dX12_crews_44 : decode cX12_crews 44 = .ok (.iload_n 3, 1) := by decide +kernel
theorem dX12_crews_45 : decode cX12_crews 45 = .ok (.ireturn, 1) := by decide +kernel
theorem dX12_crews_46 : decode cX12_crews 46 = .ok (.iinc 2 1, 3) := by decide +kernel
theorem dX12_crews_49 : decode cX12_crews 49 = .ok (.iinc 3 1, 3) := by decide +kernel
theorem dX12_crews_52 : decode cX12_crews 52 = .ok (.goto (-36), 3) := by decide +kernel
theorem dX12_crews_55 : decode cX12_crews 55 = .ok (.iload_n 1, 1) := by decide +kernel
theorem dX12_crews_56 : decode cX12_crews 56 = .ok (.iconst (-1), 1) := by decide +kernel
theorem dX12_crews_57 : decode cX12_crews 57 = .ok (.if_icmp .ne 7, 3) := by decide +kernel
theorem dX12_crews_60 : decode cX12_crews 60 = .ok (.iload_n 2, 1) := by decide +kernel
theorem dX12_crews_61 : decode cX12_crews 61 = .ok (.goto 4, 3) := by decide +kernel
theorem dX12_crews_64 : decode cX12_crews 64 = .ok (.iconst (-1), 1) := by decide +kernel
theorem dX12_crews_65 : decode cX12_crews 65 = .ok (.ireturn, 1) := by decide +kernel
theorem dX12_largest_0 : decode cX12_largest 0 = .ok (.aload_n 0, 1) := by decide +kernel
theorem dX12_largest_1 : decode cX12_largest 1 = .ok (.iconst 0, 1) := by decide +kernel
theorem dX12_largest_2 : decode cX12_largest 2 = .ok (.putfield 1, 3) := by decide +kernel
theorem dX12_largest_5 : decode cX12_largest 5 = .ok (.iconst (-1), 1) := by decide +kernel
theorem dX12_largest_6 : decode cX12_largest 6 = .ok (.istore_n 1, 1) := by decide +kernel
theorem dX12_largest_7 : decode cX12_largest 7 = .ok (.iconst 1, 1) := by decide +kernel
theorem dX12_largest_8 : decode cX12_largest 8 = .ok (.istore_n 2, 1) := by decide +kernel
theorem dX12_largest_9 : decode cX12_largest 9 = .ok (.iload_n 2, 1) := by decide +kernel
theorem dX12_largest_10 : decode cX12_largest 10 = .ok (.iconst 1, 1) := by decide +kernel
theorem dX12_largest_11 : decode cX12_largest 11 = .ok (.aload_n 0, 1) := by decide +kernel
theorem dX12_largest_12 : decode cX12_largest 12 = .ok (.getfield 33, 3) := by decide +kernel
theorem dX12_largest_15 : decode cX12_largest 15 = .ok (.iconst 1, 1) := by decide +kernel
theorem dX12_largest_16 : decode cX12_largest 16 = .ok (.iaload, 1) := by decide +kernel
theorem dX12_largest_17 : decode cX12_largest 17 = .ok (.ishl, 1) := by decide +kernel
theorem dX12_largest_18 : decode cX12_largest 18 = .ok (.if_icmp .ge 34, 3) := by decide +kernel
theorem dX12_largest_21 : decode cX12_largest 21 = .ok (.iload_n 1, 1) := by decide +kernel
theorem dX12_largest_22 : decode cX12_largest 22 = .ok (.ifCond .lt 14, 3) := by decide +kernel
theorem dX12_largest_25 : decode cX12_largest 25 = .ok (.iload_n 2, 1) := by decide +kernel
theorem dX12_largest_26 : decode cX12_largest 26 = .ok (.invokestatic 284, 3) := by decide +kernel
theorem dX12_largest_29 : decode cX12_largest 29 = .ok (.iload_n 1, 1) := by decide +kernel
theorem dX12_largest_30 : decode cX12_largest 30 = .ok (.invokestatic 284, 3) := by decide +kernel
theorem dX12_largest_33 : decode cX12_largest 33 = .ok (.if_icmp .le 13, 3) := by decide +kernel
theorem dX12_largest_36 : decode cX12_largest 36 = .ok (.aload_n 0, 1) := by decide +kernel
theorem dX12_largest_37 : decode cX12_largest 37 = .ok (.iload_n 2, 1) := by decide +kernel
theorem dX12_largest_38 : decode cX12_largest 38 = .ok (.invokevirtual 299, 3) := by decide +kernel
theorem dX12_largest_41 : decode cX12_largest 41 = .ok (.ifCond .ne 5, 3) := by decide +kernel
theorem dX12_largest_44 : decode cX12_largest 44 = .ok (.iload_n 2, 1) := by decide +kernel
theorem dX12_largest_45 : decode cX12_largest 45 = .ok (.istore_n 1, 1) := by decide +kernel
theorem dX12_largest_46 : decode cX12_largest 46 = .ok (.iinc 2 1, 3) := by decide +kernel
theorem dX12_largest_49 : decode cX12_largest 49 = .ok (.goto (-40), 3) := by decide +kernel
theorem dX12_largest_52 : decode cX12_largest 52 = .ok (.iload_n 1, 1) := by decide +kernel
theorem dX12_largest_53 : decode cX12_largest 53 = .ok (.ireturn, 1) := by decide +kernel
theorem dX12_stuck_0 : decode cX12_stuck 0 = .ok (.aload_n 0, 1) := by decide +kernel
theorem dX12_stuck_1 : decode cX12_stuck 1 = .ok (.iconst 0, 1) := by decide +kernel
theorem dX12_stuck_2 : decode cX12_stuck 2 = .ok (.putfield 1, 3) := by decide +kernel
theorem dX12_stuck_5 : decode cX12_stuck 5 = .ok (.aload_n 0, 1) := by decide +kernel
theorem dX12_stuck_6 : decode cX12_stuck 6 = .ok (.invokevirtual 281, 3) := by decide +kernel
theorem dX12_stuck_9 : decode cX12_stuck 9 = .ok (.istore_n 1, 1) := by decide +kernel
theorem dX12_stuck_10 : decode cX12_stuck 10 = .ok (.iconst 1, 1) := by decide +kernel
theorem dX12_stuck_11 : decode cX12_stuck 11 = .ok (.istore_n 2, 1) := by decide +kernel
theorem dX12_stuck_12 : decode cX12_stuck 12 = .ok (.iload_n 2, 1) := by decide +kernel
theorem dX12_stuck_13 : decode cX12_stuck 13 = .ok (.iconst 1, 1) := by decide +kernel
theorem dX12_stuck_14 : decode cX12_stuck 14 = .ok (.aload_n 0, 1) := by decide +kernel
theorem dX12_stuck_15 : decode cX12_stuck 15 = .ok (.getfield 33, 3) := by decide +kernel
theorem dX12_stuck_18 : decode cX12_stuck 18 = .ok (.iconst 1, 1) := by decide +kernel
theorem dX12_stuck_19 : decode cX12_stuck 19 = .ok (.iaload, 1) := by decide +kernel
theorem dX12_stuck_20 : decode cX12_stuck 20 = .ok (.ishl, 1) := by decide +kernel
theorem dX12_stuck_21 : decode cX12_stuck 21 = .ok (.if_icmp .ge 29, 3) := by decide +kernel
theorem dX12_stuck_24 : decode cX12_stuck 24 = .ok (.iload_n 2, 1) := by decide +kernel
theorem dX12_stuck_25 : decode cX12_stuck 25 = .ok (.iload_n 1, 1) := by decide +kernel
theorem dX12_stuck_26 : decode cX12_stuck 26 = .ok (.iand, 1) := by decide +kernel
theorem dX12_stuck_27 : decode cX12_stuck 27 = .ok (.ifCond .eq 17, 3) := by decide +kernel
theorem dX12_stuck_30 : decode cX12_stuck 30 = .ok (.aload_n 0, 1) := by decide +kernel
theorem dX12_stuck_31 : decode cX12_stuck 31 = .ok (.iload_n 2, 1) := by decide +kernel
theorem dX12_stuck_32 : decode cX12_stuck 32 = .ok (.invokevirtual 299, 3) := by decide +kernel
theorem dX12_stuck_35 : decode cX12_stuck 35 = .ok (.ifCond .ne 9, 3) := by decide +kernel
theorem dX12_stuck_38 : decode cX12_stuck 38 = .ok (.iload_n 1, 1) := by decide +kernel
theorem dX12_stuck_39 : decode cX12_stuck 39 = .ok (.iload_n 2, 1) := by decide +kernel
theorem dX12_stuck_40 : decode cX12_stuck 40 = .ok (.iconst (-1), 1) := by decide +kernel
theorem dX12_stuck_41 : decode cX12_stuck 41 = .ok (.ixor, 1) := by decide +kernel
theorem dX12_stuck_42 : decode cX12_stuck 42 = .ok (.iand, 1) := by decide +kernel
theorem dX12_stuck_43 : decode cX12_stuck 43 = .ok (.istore_n 1, 1) := by decide +kernel
theorem dX12_stuck_44 : decode cX12_stuck 44 = .ok (.iinc 2 1, 3) := by decide +kernel
theorem dX12_stuck_47 : decode cX12_stuck 47 = .ok (.goto (-35), 3) := by decide +kernel
theorem dX12_stuck_50 : decode cX12_stuck 50 = .ok (.iload_n 1, 1) := by decide +kernel
theorem dX12_stuck_51 : decode cX12_stuck 51 = .ok (.ireturn, 1) := by decide +kernel
theorem dX12_spreads_0 : decode cX12_spreads 0 = .ok (.iconst 1, 1) := by decide +kernel
theorem dX12_spreads_1 : decode cX12_spreads 1 = .ok (.aload_n 0, 1) := by decide +kernel
theorem dX12_spreads_2 : decode cX12_spreads 2 = .ok (.getfield 33, 3) := by decide +kernel
theorem dX12_spreads_5 : decode cX12_spreads 5 = .ok (.iconst 1, 1) := by decide +kernel
theorem dX12_spreads_6 : decode cX12_spreads 6 = .ok (.iaload, 1) := by decide +kernel
theorem dX12_spreads_7 : decode cX12_spreads 7 = .ok (.ishl, 1) := by decide +kernel
theorem dX12_spreads_8 : decode cX12_spreads 8 = .ok (.iconst 1, 1) := by decide +kernel
theorem dX12_spreads_9 : decode cX12_spreads 9 = .ok (.isub, 1) := by decide +kernel
theorem dX12_spreads_10 : decode cX12_spreads 10 = .ok (.istore_n 2, 1) := by decide +kernel
theorem dX12_spreads_11 : decode cX12_spreads 11 = .ok (.iconst 0, 1) := by decide +kernel
theorem dX12_spreads_12 : decode cX12_spreads 12 = .ok (.istore_n 3, 1) := by decide +kernel
theorem dX12_spreads_13 : decode cX12_spreads 13 = .ok (.iload_n 3, 1) := by decide +kernel
theorem dX12_spreads_14 : decode cX12_spreads 14 = .ok (.iload_n 2, 1) := by decide +kernel
theorem dX12_spreads_15 : decode cX12_spreads 15 = .ok (.if_icmp .gt 58, 3) := by decide +kernel
theorem dX12_spreads_18 : decode cX12_spreads 18 = .ok (.aload_n 0, 1) := by decide +kernel
theorem dX12_spreads_19 : decode cX12_spreads 19 = .ok (.getfield 62, 3) := by decide +kernel
theorem dX12_spreads_22 : decode cX12_spreads 22 = .ok (.iload_n 3, 1) := by decide +kernel
theorem dX12_spreads_23 : decode cX12_spreads 23 = .ok (.iload_n 3, 1) := by decide +kernel
theorem dX12_spreads_24 : decode cX12_spreads 24 = .ok (.ifCond .le 41, 3) := by decide +kernel
theorem dX12_spreads_27 : decode cX12_spreads 27 = .ok (.iload_n 3, 1) := by decide +kernel
theorem dX12_spreads_28 : decode cX12_spreads 28 = .ok (.invokestatic 284, 3) := by decide +kernel
theorem dX12_spreads_31 : decode cX12_spreads 31 = .ok (.aload_n 0, 1) := by decide +kernel
theorem dX12_spreads_32 : decode cX12_spreads 32 = .ok (.getfield 33, 3) := by decide +kernel
theorem dX12_spreads_35 : decode cX12_spreads 35 = .ok (.iconst 2, 1) := by decide +kernel
theorem dX12_spreads_36 : decode cX12_spreads 36 = .ok (.iaload, 1) := by decide +kernel
theorem dX12_spreads_37 : decode cX12_spreads 37 = .ok (.if_icmp .gt 28, 3) := by decide +kernel
theorem dX12_spreads_40 : decode cX12_spreads 40 = .ok (.aload_n 0, 1) := by decide +kernel
theorem dX12_spreads_41 : decode cX12_spreads 41 = .ok (.aload_n 0, 1) := by decide +kernel
theorem dX12_spreads_42 : decode cX12_spreads 42 = .ok (.iload_n 3, 1) := by decide +kernel
theorem dX12_spreads_43 : decode cX12_spreads 43 = .ok (.iload_n 1, 1) := by decide +kernel
theorem dX12_spreads_44 : decode cX12_spreads 44 = .ok (.invokevirtual 287, 3) := by decide +kernel
theorem dX12_spreads_47 : decode cX12_spreads 47 = .ok (.invokevirtual 290, 3) := by decide +kernel
theorem dX12_spreads_50 : decode cX12_spreads 50 = .ok (.ifCond .eq 15, 3) := by decide +kernel
theorem dX12_spreads_53 : decode cX12_spreads 53 = .ok (.aload_n 0, 1) := by decide +kernel
theorem dX12_spreads_54 : decode cX12_spreads 54 = .ok (.iload_n 3, 1) := by decide +kernel
theorem dX12_spreads_55 : decode cX12_spreads 55 = .ok (.invokevirtual 293, 3) := by decide +kernel
theorem dX12_spreads_58 : decode cX12_spreads 58 = .ok (.ifCond .ne 7, 3) := by decide +kernel
theorem dX12_spreads_61 : decode cX12_spreads 61 = .ok (.iconst 1, 1) := by decide +kernel
theorem dX12_spreads_62 : decode cX12_spreads 62 = .ok (.goto 4, 3) := by decide +kernel
theorem dX12_spreads_65 : decode cX12_spreads 65 = .ok (.iconst 0, 1) := by decide +kernel
theorem dX12_spreads_66 : decode cX12_spreads 66 = .ok (.bastore, 1) := by decide +kernel
theorem dX12_spreads_67 : decode cX12_spreads 67 = .ok (.iinc 3 1, 3) := by decide +kernel
theorem dX12_spreads_70 : decode cX12_spreads 70 = .ok (.goto (-57), 3) := by decide +kernel
theorem dX12_spreads_73 : decode cX12_spreads 73 = .ok (.iconst 0, 1) := by decide +kernel
theorem dX12_spreads_74 : decode cX12_spreads 74 = .ok (.istore_n 3, 1) := by decide +kernel
theorem dX12_spreads_75 : decode cX12_spreads 75 = .ok (.iload_n 3, 1) := by decide +kernel
theorem dX12_spreads_76 : decode cX12_spreads 76 = .ok (.sipush 2048, 3) := by decide +kernel
theorem dX12_spreads_79 : decode cX12_spreads 79 = .ok (.if_icmp .ge 18, 3) := by decide +kernel
theorem dX12_spreads_82 : decode cX12_spreads 82 = .ok (.aload_n 0, 1) := by decide +kernel
theorem dX12_spreads_83 : decode cX12_spreads 83 = .ok (.getfield 56, 3) := by decide +kernel
theorem dX12_spreads_86 : decode cX12_spreads 86 = .ok (.iload_n 3, 1) := by decide +kernel
theorem dX12_spreads_87 : decode cX12_spreads 87 = .ok (.ldc_w 331, 3) := by decide +kernel
theorem dX12_spreads_90 : decode cX12_spreads 90 = .ok (.iastore, 1) := by decide +kernel
theorem dX12_spreads_91 : decode cX12_spreads 91 = .ok (.iinc 3 1, 3) := by decide +kernel
theorem dX12_spreads_94 : decode cX12_spreads 94 = .ok (.goto (-19), 3) := by decide +kernel
theorem dX12_spreads_97 : decode cX12_spreads 97 = .ok (.iconst 1, 1) := by decide +kernel
theorem dX12_spreads_98 : decode cX12_spreads 98 = .ok (.istore_n 3, 1) := by decide +kernel
theorem dX12_spreads_99 : decode cX12_spreads 99 = .ok (.aload_n 0, 1) := by decide +kernel
theorem dX12_spreads_100 : decode cX12_spreads 100 = .ok (.getfield 59, 3) := by decide +kernel
theorem dX12_spreads_103 : decode cX12_spreads 103 = .ok (.iconst 0, 1) := by decide +kernel
theorem dX12_spreads_104 : decode cX12_spreads 104 = .ok (.sipush 1024, 3) := by decide +kernel
theorem dX12_spreads_107 : decode cX12_spreads 107 = .ok (.iload_n 2, 1) := by decide +kernel
theorem dX12_spreads_108 : decode cX12_spreads 108 = .ok (.ior, 1) := by decide +kernel
theorem dX12_spreads_109 : decode cX12_spreads 109 = .ok (.iastore, 1) := by decide +kernel
theorem dX12_spreads_110 : decode cX12_spreads 110 = .ok (.aload_n 0, 1) := by decide +kernel
theorem dX12_spreads_111 : decode cX12_spreads 111 = .ok (.getfield 56, 3) := by decide +kernel
theorem dX12_spreads_114 : decode cX12_spreads 114 = .ok (.sipush 1024, 3) := by decide +kernel
theorem dX12_spreads_117 : decode cX12_spreads 117 = .ok (.iload_n 2, 1) := by decide +kernel
theorem dX12_spreads_118 : decode cX12_spreads 118 = .ok (.ior, 1) := by decide +kernel
theorem dX12_spreads_119 : decode cX12_spreads 119 = .ok (.iconst 0, 1) := by decide +kernel
theorem dX12_spreads_120 : decode cX12_spreads 120 = .ok (.iastore, 1) := by decide +kernel
theorem dX12_spreads_121 : decode cX12_spreads 121 = .ok (.iconst 0, 1) := by decide +kernel
theorem dX12_spreads_122 : decode cX12_spreads 122 = .ok (.istore 4, 2) := by decide +kernel
theorem dX12_spreads_124 : decode cX12_spreads 124 = .ok (.iload 4, 2) := by decide +kernel
theorem dX12_spreads_126 : decode cX12_spreads 126 = .ok (.iload_n 3, 1) := by decide +kernel
theorem dX12_spreads_127 : decode cX12_spreads 127 = .ok (.if_icmp .ge 125, 3) := by decide +kernel
theorem dX12_spreads_130 : decode cX12_spreads 130 = .ok (.aload_n 0, 1) := by decide +kernel
theorem dX12_spreads_131 : decode cX12_spreads 131 = .ok (.getfield 59, 3) := by decide +kernel
theorem dX12_spreads_134 : decode cX12_spreads 134 = .ok (.iload 4, 2) := by decide +kernel
theorem dX12_spreads_136 : decode cX12_spreads 136 = .ok (.iaload, 1) := by decide +kernel
theorem dX12_spreads_137 : decode cX12_spreads 137 = .ok (.istore 5, 2) := by decide +kernel
theorem dX12_spreads_139 : decode cX12_spreads 139 = .ok (.iload 5, 2) := by decide +kernel
theorem dX12_spreads_141 : decode cX12_spreads 141 = .ok (.bipush 10, 2) := by decide +kernel
theorem dX12_spreads_143 : decode cX12_spreads 143 = .ok (.ishr, 1) := by decide +kernel
theorem dX12_spreads_144 : decode cX12_spreads 144 = .ok (.iconst 1, 1) := by decide +kernel
theorem dX12_spreads_145 : decode cX12_spreads 145 = .ok (.if_icmp .ne 8, 3) := by decide +kernel
theorem dX12_spreads_148 : decode cX12_spreads 148 = .ok (.iload 5, 2) := by decide +kernel
theorem dX12_spreads_150 : decode cX12_spreads 150 = .ok (.goto 7, 3) := by decide +kernel
theorem dX12_spreads_153 : decode cX12_spreads 153 = .ok (.iload 5, 2) := by decide +kernel
theorem dX12_spreads_155 : decode cX12_spreads 155 = .ok (.iconst (-1), 1) := by decide +kernel
theorem dX12_spreads_156 : decode cX12_spreads 156 = .ok (.ixor, 1) := by decide +kernel
theorem dX12_spreads_157 : decode cX12_spreads 157 = .ok (.iload_n 2, 1) := by decide +kernel
theorem dX12_spreads_158 : decode cX12_spreads 158 = .ok (.iand, 1) := by decide +kernel
theorem dX12_spreads_159 : decode cX12_spreads 159 = .ok (.istore 6, 2) := by decide +kernel
theorem dX12_spreads_161 : decode cX12_spreads 161 = .ok (.iload 6, 2) := by decide +kernel
theorem dX12_spreads_163 : decode cX12_spreads 163 = .ok (.istore 7, 2) := by decide +kernel
theorem dX12_spreads_165 : decode cX12_spreads 165 = .ok (.iload 7, 2) := by decide +kernel
theorem dX12_spreads_167 : decode cX12_spreads 167 = .ok (.ifCond .le 79, 3) := by decide +kernel
theorem dX12_spreads_170 : decode cX12_spreads 170 = .ok (.iload 5, 2) := by decide +kernel
theorem dX12_spreads_172 : decode cX12_spreads 172 = .ok (.sipush 1024, 3) := by decide +kernel
theorem dX12_spreads_175 : decode cX12_spreads 175 = .ok (.ixor, 1) := by decide +kernel
theorem dX12_spreads_176 : decode cX12_spreads 176 = .ok (.iload 7, 2) := by decide +kernel
theorem dX12_spreads_178 : decode cX12_spreads 178 = .ok (.ixor, 1) := by decide +kernel
theorem dX12_spreads_179 : decode cX12_spreads 179 = .ok (.istore 8, 2) := by decide +kernel
theorem dX12_spreads_181 : decode cX12_spreads 181 = .ok (.aload_n 0, 1) := by decide +kernel
theorem dX12_spreads_182 : decode cX12_spreads 182 = .ok (.getfield 62, 3) := by decide +kernel
theorem dX12_spreads_185 : decode cX12_spreads 185 = .ok (.iload 7, 2) := by decide +kernel
theorem dX12_spreads_187 : decode cX12_spreads 187 = .ok (.baload, 1) := by decide +kernel
theorem dX12_spreads_188 : decode cX12_spreads 188 = .ok (.ifCond .eq 46, 3) := by decide +kernel
theorem dX12_spreads_191 : decode cX12_spreads 191 = .ok (.aload_n 0, 1) := by decide +kernel
theorem dX12_spreads_192 : decode cX12_spreads 192 = .ok (.getfield 56, 3) := by decide +kernel
theorem dX12_spreads_195 : decode cX12_spreads 195 = .ok (.iload 8, 2) := by decide +kernel
theorem dX12_spreads_197 : decode cX12_spreads 197 = .ok (.iaload, 1) := by decide +kernel
theorem dX12_spreads_198 : decode cX12_spreads 198 = .ok (.ldc_w 331, 3) := by decide +kernel
theorem dX12_spreads_201 : decode cX12_spreads 201 = .ok (.if_icmp .ge 6, 3) := by decide +kernel
theorem dX12_spreads_204 : decode cX12_spreads 204 = .ok (.goto 30, 3) := by decide +kernel
theorem dX12_spreads_207 : decode cX12_spreads 207 = .ok (.aload_n 0, 1) := by decide +kernel
theorem dX12_spreads_208 : decode cX12_spreads 208 = .ok (.getfield 56, 3) := by decide +kernel
theorem dX12_spreads_211 : decode cX12_spreads 211 = .ok (.iload 8, 2) := by decide +kernel
theorem dX12_spreads_213 : decode cX12_spreads 213 = .ok (.aload_n 0, 1) := by decide +kernel
theorem dX12_spreads_214 : decode cX12_spreads 214 = .ok (.getfield 56, 3) := by decide +kernel
theorem dX12_spreads_217 : decode cX12_spreads 217 = .ok (.iload 5, 2) := by decide +kernel
theorem dX12_spreads_219 : decode cX12_spreads 219 = .ok (.iaload, 1) := by decide +kernel
theorem dX12_spreads_220 : decode cX12_spreads 220 = .ok (.iconst 1, 1) := by decide +kernel
theorem dX12_spreads_221 : decode cX12_spreads 221 = .ok (.iadd, 1) := by decide +kernel
theorem dX12_spreads_222 : decode cX12_spreads 222 = .ok (.iastore, 1) := by decide +kernel
theorem dX12_spreads_223 : decode cX12_spreads 223 = .ok (.aload_n 0, 1) := by decide +kernel
theorem dX12_spreads_224 : decode cX12_spreads 224 = .ok (.getfield 59, 3) := by decide +kernel
theorem dX12_spreads_227 : decode cX12_spreads 227 = .ok (.iload_n 3, 1) := by decide +kernel
theorem dX12_spreads_228 : decode cX12_spreads 228 = .ok (.iload 8, 2) := by decide +kernel
theorem dX12_spreads_230 : decode cX12_spreads 230 = .ok (.iastore, 1) := by decide +kernel
theorem dX12_spreads_231 : decode cX12_spreads 231 = .ok (.iinc 3 1, 3) := by decide +kernel
theorem dX12_spreads_234 : decode cX12_spreads 234 = .ok (.iload 7, 2) := by decide +kernel
theorem dX12_spreads_236 : decode cX12_spreads 236 = .ok (.iconst 1, 1) := by decide +kernel
theorem dX12_spreads_237 : decode cX12_spreads 237 = .ok (.isub, 1) := by decide +kernel
theorem dX12_spreads_238 : decode cX12_spreads 238 = .ok (.iload 6, 2) := by decide +kernel
theorem dX12_spreads_240 : decode cX12_spreads 240 = .ok (.iand, 1) := by decide +kernel
theorem dX12_spreads_241 : decode cX12_spreads 241 = .ok (.istore 7, 2) := by decide +kernel
theorem dX12_spreads_243 : decode cX12_spreads 243 = .ok (.goto (-78), 3) := by decide +kernel
theorem dX12_spreads_246 : decode cX12_spreads 246 = .ok (.iinc 4 1, 3) := by decide +kernel
theorem dX12_spreads_249 : decode cX12_spreads 249 = .ok (.goto (-125), 3) := by decide +kernel
theorem dX12_spreads_252 : decode cX12_spreads 252 = .ok (.return_, 1) := by decide +kernel
theorem dX12_tripsBy_0 : decode cX12_tripsBy 0 = .ok (.aload_n 0, 1) := by decide +kernel
theorem dX12_tripsBy_1 : decode cX12_tripsBy 1 = .ok (.getfield 33, 3) := by decide +kernel
theorem dX12_tripsBy_4 : decode cX12_tripsBy 4 = .ok (.sipush 129, 3) := by decide +kernel
theorem dX12_tripsBy_7 : decode cX12_tripsBy 7 = .ok (.iaload, 1) := by decide +kernel
theorem dX12_tripsBy_8 : decode cX12_tripsBy 8 = .ok (.iconst 1, 1) := by decide +kernel
theorem dX12_tripsBy_9 : decode cX12_tripsBy 9 = .ok (.aload_n 0, 1) := by decide +kernel
theorem dX12_tripsBy_10 : decode cX12_tripsBy 10 = .ok (.getfield 33, 3) := by decide +kernel
theorem dX12_tripsBy_13 : decode cX12_tripsBy 13 = .ok (.iconst 1, 1) := by decide +kernel
theorem dX12_tripsBy_14 : decode cX12_tripsBy 14 = .ok (.iaload, 1) := by decide +kernel
theorem dX12_tripsBy_15 : decode cX12_tripsBy 15 = .ok (.ishl, 1) := by decide +kernel
theorem dX12_tripsBy_16 : decode cX12_tripsBy 16 = .ok (.iconst 1, 1) := by decide +kernel
theorem dX12_tripsBy_17 : decode cX12_tripsBy 17 = .ok (.isub, 1) := by decide +kernel
theorem dX12_tripsBy_18 : decode cX12_tripsBy 18 = .ok (.if_icmp .ne 5, 3) := by decide +kernel
theorem dX12_tripsBy_21 : decode cX12_tripsBy 21 = .ok (.iconst 0, 1) := by decide +kernel
theorem dX12_tripsBy_22 : decode cX12_tripsBy 22 = .ok (.ireturn, 1) := by decide +kernel
theorem dX12_tripsBy_23 : decode cX12_tripsBy 23 = .ok (.aload_n 0, 1) := by decide +kernel
theorem dX12_tripsBy_24 : decode cX12_tripsBy 24 = .ok (.iload_n 1, 1) := by decide +kernel
theorem dX12_tripsBy_25 : decode cX12_tripsBy 25 = .ok (.invokevirtual 332, 3) := by decide +kernel
theorem dX12_tripsBy_28 : decode cX12_tripsBy 28 = .ok (.aload_n 0, 1) := by decide +kernel
theorem dX12_tripsBy_29 : decode cX12_tripsBy 29 = .ok (.getfield 56, 3) := by decide +kernel
theorem dX12_tripsBy_32 : decode cX12_tripsBy 32 = .ok (.aload_n 0, 1) := by decide +kernel
theorem dX12_tripsBy_33 : decode cX12_tripsBy 33 = .ok (.getfield 33, 3) := by decide +kernel
theorem dX12_tripsBy_36 : decode cX12_tripsBy 36 = .ok (.bipush 125, 2) := by decide +kernel
theorem dX12_tripsBy_38 : decode cX12_tripsBy 38 = .ok (.iaload, 1) := by decide +kernel
theorem dX12_tripsBy_39 : decode cX12_tripsBy 39 = .ok (.bipush 10, 2) := by decide +kernel
theorem dX12_tripsBy_41 : decode cX12_tripsBy 41 = .ok (.ishl, 1) := by decide +kernel
theorem dX12_tripsBy_42 : decode cX12_tripsBy 42 = .ok (.aload_n 0, 1) := by decide +kernel
theorem dX12_tripsBy_43 : decode cX12_tripsBy 43 = .ok (.getfield 33, 3) := by decide +kernel
theorem dX12_tripsBy_46 : decode cX12_tripsBy 46 = .ok (.sipush 129, 3) := by decide +kernel
theorem dX12_tripsBy_49 : decode cX12_tripsBy 49 = .ok (.iaload, 1) := by decide +kernel
theorem dX12_tripsBy_50 : decode cX12_tripsBy 50 = .ok (.ior, 1) := by decide +kernel
theorem dX12_tripsBy_51 : decode cX12_tripsBy 51 = .ok (.iaload, 1) := by decide +kernel
theorem dX12_tripsBy_52 : decode cX12_tripsBy 52 = .ok (.istore_n 2, 1) := by decide +kernel
theorem dX12_tripsBy_53 : decode cX12_tripsBy 53 = .ok (.iload_n 2, 1) := by decide +kernel
theorem dX12_tripsBy_54 : decode cX12_tripsBy 54 = .ok (.ldc_w 331, 3) := by decide +kernel
theorem dX12_tripsBy_57 : decode cX12_tripsBy 57 = .ok (.if_icmp .ge 7, 3) := by decide +kernel
theorem dX12_tripsBy_60 : decode cX12_tripsBy 60 = .ok (.iload_n 2, 1) := by decide +kernel
theorem dX12_tripsBy_61 : decode cX12_tripsBy 61 = .ok (.goto 4, 3) := by decide +kernel
theorem dX12_tripsBy_64 : decode cX12_tripsBy 64 = .ok (.iconst (-1), 1) := by decide +kernel
theorem dX12_tripsBy_65 : decode cX12_tripsBy 65 = .ok (.ireturn, 1) := by decide +kernel
theorem dX12_trips_0 : decode cX12_trips 0 = .ok (.aload_n 0, 1) := by decide +kernel
theorem dX12_trips_1 : decode cX12_trips 1 = .ok (.iconst 0, 1) := by decide +kernel
theorem dX12_trips_2 : decode cX12_trips 2 = .ok (.putfield 1, 3) := by decide +kernel
theorem dX12_trips_5 : decode cX12_trips 5 = .ok (.aload_n 0, 1) := by decide +kernel
theorem dX12_trips_6 : decode cX12_trips 6 = .ok (.iload_n 1, 1) := by decide +kernel
theorem dX12_trips_7 : decode cX12_trips 7 = .ok (.invokevirtual 266, 3) := by decide +kernel
theorem dX12_trips_10 : decode cX12_trips 10 = .ok (.ifCond .eq 11, 3) := by decide +kernel
theorem dX12_trips_13 : decode cX12_trips 13 = .ok (.aload_n 0, 1) := by decide +kernel
theorem dX12_trips_14 : decode cX12_trips 14 = .ok (.iload_n 1, 1) := by decide +kernel
theorem dX12_trips_15 : decode cX12_trips 15 = .ok (.invokevirtual 335, 3) := by decide +kernel
theorem dX12_trips_18 : decode cX12_trips 18 = .ok (.goto 4, 3) := by decide +kernel
theorem dX12_trips_21 : decode cX12_trips 21 = .ok (.iconst (-1), 1) := by decide +kernel
theorem dX12_trips_22 : decode cX12_trips 22 = .ok (.ireturn, 1) := by decide +kernel
theorem dX12_next_0 : decode cX12_next 0 = .ok (.aload_n 0, 1) := by decide +kernel
theorem dX12_next_1 : decode cX12_next 1 = .ok (.iconst 0, 1) := by decide +kernel
theorem dX12_next_2 : decode cX12_next 2 = .ok (.putfield 1, 3) := by decide +kernel
theorem dX12_next_5 : decode cX12_next 5 = .ok (.aload_n 0, 1) := by decide +kernel
theorem dX12_next_6 : decode cX12_next 6 = .ok (.getfield 33, 3) := by decide +kernel
theorem dX12_next_9 : decode cX12_next 9 = .ok (.iconst 0, 1) := by decide +kernel
theorem dX12_next_10 : decode cX12_next 10 = .ok (.iaload, 1) := by decide +kernel
theorem dX12_next_11 : decode cX12_next 11 = .ok (.ifCond .ne 7, 3) := by decide +kernel
theorem dX12_next_14 : decode cX12_next 14 = .ok (.iconst (-1), 1) := by decide +kernel
theorem dX12_next_15 : decode cX12_next 15 = .ok (.goto 14, 3) := by decide +kernel
theorem dX12_next_18 : decode cX12_next 18 = .ok (.aload_n 0, 1) := by decide +kernel
theorem dX12_next_19 : decode cX12_next 19 = .ok (.aload_n 0, 1) := by decide +kernel
theorem dX12_next_20 : decode cX12_next 20 = .ok (.getfield 33, 3) := by decide +kernel
theorem dX12_next_23 : decode cX12_next 23 = .ok (.bipush 126, 2) := by decide +kernel
theorem dX12_next_25 : decode cX12_next 25 = .ok (.iaload, 1) := by decide +kernel
theorem dX12_next_26 : decode cX12_next 26 = .ok (.invokevirtual 335, 3) := by decide +kernel
theorem dX12_next_29 : decode cX12_next 29 = .ok (.istore_n 1, 1) := by decide +kernel
theorem dX12_next_30 : decode cX12_next 30 = .ok (.iload_n 1, 1) := by decide +kernel
theorem dX12_next_31 : decode cX12_next 31 = .ok (.ifCond .gt 5, 3) := by decide +kernel
theorem dX12_next_34 : decode cX12_next 34 = .ok (.iload_n 1, 1) := by decide +kernel
theorem dX12_next_35 : decode cX12_next 35 = .ok (.ireturn, 1) := by decide +kernel
theorem dX12_next_36 : decode cX12_next 36 = .ok (.aload_n 0, 1) := by decide +kernel
theorem dX12_next_37 : decode cX12_next 37 = .ok (.getfield 33, 3) := by decide +kernel
theorem dX12_next_40 : decode cX12_next 40 = .ok (.bipush 125, 2) := by decide +kernel
theorem dX12_next_42 : decode cX12_next 42 = .ok (.iaload, 1) := by decide +kernel
theorem dX12_next_43 : decode cX12_next 43 = .ok (.bipush 10, 2) := by decide +kernel
theorem dX12_next_45 : decode cX12_next 45 = .ok (.ishl, 1) := by decide +kernel
theorem dX12_next_46 : decode cX12_next 46 = .ok (.aload_n 0, 1) := by decide +kernel
theorem dX12_next_47 : decode cX12_next 47 = .ok (.getfield 33, 3) := by decide +kernel
theorem dX12_next_50 : decode cX12_next 50 = .ok (.sipush 129, 3) := by decide +kernel
theorem dX12_next_53 : decode cX12_next 53 = .ok (.iaload, 1) := by decide +kernel
theorem dX12_next_54 : decode cX12_next 54 = .ok (.ior, 1) := by decide +kernel
theorem dX12_next_55 : decode cX12_next 55 = .ok (.istore_n 2, 1) := by decide +kernel
theorem dX12_next_56 : decode cX12_next 56 = .ok (.iconst 1, 1) := by decide +kernel
theorem dX12_next_57 : decode cX12_next 57 = .ok (.istore_n 3, 1) := by decide +kernel
theorem dX12_next_58 : decode cX12_next 58 = .ok (.iload_n 3, 1) := by decide +kernel
theorem dX12_next_59 : decode cX12_next 59 = .ok (.iconst 1, 1) := by decide +kernel
theorem dX12_next_60 : decode cX12_next 60 = .ok (.aload_n 0, 1) := by decide +kernel
theorem dX12_next_61 : decode cX12_next 61 = .ok (.getfield 33, 3) := by decide +kernel
theorem dX12_next_64 : decode cX12_next 64 = .ok (.iconst 1, 1) := by decide +kernel
theorem dX12_next_65 : decode cX12_next 65 = .ok (.iaload, 1) := by decide +kernel
theorem dX12_next_66 : decode cX12_next 66 = .ok (.ishl, 1) := by decide +kernel
theorem dX12_next_67 : decode cX12_next 67 = .ok (.if_icmp .ge 49, 3) := by decide +kernel
theorem dX12_next_70 : decode cX12_next 70 = .ok (.iload_n 3, 1) := by decide +kernel
theorem dX12_next_71 : decode cX12_next 71 = .ok (.aload_n 0, 1) := by decide +kernel
theorem dX12_next_72 : decode cX12_next 72 = .ok (.invokevirtual 281, 3) := by decide +kernel
theorem dX12_next_75 : decode cX12_next 75 = .ok (.iconst (-1), 1) := by decide +kernel
theorem dX12_next_76 : decode cX12_next 76 = .ok (.ixor, 1) := by decide +kernel
theorem dX12_next_77 : decode cX12_next 77 = .ok (.iand, 1) := by decide +kernel
theorem dX12_next_78 : decode cX12_next 78 = .ok (.ifCond .ne 32, 3) := by decide +kernel
theorem dX12_next_81 : decode cX12_next 81 = .ok (.aload_n 0, 1) := by decide +kernel
theorem dX12_next_82 : decode cX12_next 82 = .ok (.getfield 62, 3) := by decide +kernel
theorem dX12_next_85 : decode cX12_next 85 = .ok (.iload_n 3, 1) := by decide +kernel
theorem dX12_next_86 : decode cX12_next 86 = .ok (.baload, 1) := by decide +kernel
theorem dX12_next_87 : decode cX12_next 87 = .ok (.ifCond .eq 23, 3) := by decide +kernel
theorem dX12_next_90 : decode cX12_next 90 = .ok (.aload_n 0, 1) := by decide +kernel
theorem dX12_next_91 : decode cX12_next 91 = .ok (.getfield 56, 3) := by decide +kernel
theorem dX12_next_94 : decode cX12_next 94 = .ok (.iload_n 2, 1) := by decide +kernel
theorem dX12_next_95 : decode cX12_next 95 = .ok (.sipush 1024, 3) := by decide +kernel
theorem dX12_next_98 : decode cX12_next 98 = .ok (.ixor, 1) := by decide +kernel
theorem dX12_next_99 : decode cX12_next 99 = .ok (.iload_n 3, 1) := by decide +kernel
theorem dX12_next_100 : decode cX12_next 100 = .ok (.ixor, 1) := by decide +kernel
theorem dX12_next_101 : decode cX12_next 101 = .ok (.iaload, 1) := by decide +kernel
theorem dX12_next_102 : decode cX12_next 102 = .ok (.iload_n 1, 1) := by decide +kernel
theorem dX12_next_103 : decode cX12_next 103 = .ok (.iconst 1, 1) := by decide +kernel
theorem dX12_next_104 : decode cX12_next 104 = .ok (.isub, 1) := by decide +kernel
theorem dX12_next_105 : decode cX12_next 105 = .ok (.if_icmp .ne 5, 3) := by decide +kernel
theorem dX12_next_108 : decode cX12_next 108 = .ok (.iload_n 3, 1) := by decide +kernel
theorem dX12_next_109 : decode cX12_next 109 = .ok (.ireturn, 1) := by decide +kernel
theorem dX12_next_110 : decode cX12_next 110 = .ok (.iinc 3 1, 3) := by decide +kernel
theorem dX12_next_113 : decode cX12_next 113 = .ok (.goto (-55), 3) := by decide +kernel
theorem dX12_next_116 : decode cX12_next 116 = .ok (.iconst (-1), 1) := by decide +kernel
theorem dX12_next_117 : decode cX12_next 117 = .ok (.ireturn, 1) := by decide +kernel
theorem dX12_best_0 : decode cX12_best 0 = .ok (.aload_n 0, 1) := by decide +kernel
theorem dX12_best_1 : decode cX12_best 1 = .ok (.iconst 0, 1) := by decide +kernel
theorem dX12_best_2 : decode cX12_best 2 = .ok (.putfield 1, 3) := by decide +kernel
theorem dX12_best_5 : decode cX12_best 5 = .ok (.iconst (-1), 1) := by decide +kernel
theorem dX12_best_6 : decode cX12_best 6 = .ok (.istore_n 1, 1) := by decide +kernel
theorem dX12_best_7 : decode cX12_best 7 = .ok (.ldc_w 331, 3) := by decide +kernel
theorem dX12_best_10 : decode cX12_best 10 = .ok (.istore_n 2, 1) := by decide +kernel
theorem dX12_best_11 : decode cX12_best 11 = .ok (.iconst 0, 1) := by decide +kernel
theorem dX12_best_12 : decode cX12_best 12 = .ok (.istore_n 3, 1) := by decide +kernel
theorem dX12_best_13 : decode cX12_best 13 = .ok (.iload_n 3, 1) := by decide +kernel
theorem dX12_best_14 : decode cX12_best 14 = .ok (.aload_n 0, 1) := by decide +kernel
theorem dX12_best_15 : decode cX12_best 15 = .ok (.getfield 33, 3) := by decide +kernel
theorem dX12_best_18 : decode cX12_best 18 = .ok (.iconst 0, 1) := by decide +kernel
theorem dX12_best_19 : decode cX12_best 19 = .ok (.iaload, 1) := by decide +kernel
theorem dX12_best_20 : decode cX12_best 20 = .ok (.if_icmp .ge 35, 3) := by decide +kernel
theorem dX12_best_23 : decode cX12_best 23 = .ok (.aload_n 0, 1) := by decide +kernel
theorem dX12_best_24 : decode cX12_best 24 = .ok (.iload_n 3, 1) := by decide +kernel
theorem dX12_best_25 : decode cX12_best 25 = .ok (.invokevirtual 335, 3) := by decide +kernel
theorem dX12_best_28 : decode cX12_best 28 = .ok (.istore 4, 2) := by decide +kernel
theorem dX12_best_30 : decode cX12_best 30 = .ok (.iload 4, 2) := by decide +kernel
theorem dX12_best_32 : decode cX12_best 32 = .ok (.ifCond .lt 17, 3) := by decide +kernel
theorem dX12_best_35 : decode cX12_best 35 = .ok (.iload 4, 2) := by decide +kernel
theorem dX12_best_37 : decode cX12_best 37 = .ok (.iload_n 2, 1) := by decide +kernel
theorem dX12_best_38 : decode cX12_best 38 = .ok (.if_icmp .lt 6, 3) := by decide +kernel
theorem dX12_best_41 : decode cX12_best 41 = .ok (.goto 8, 3) := by decide +kernel
theorem dX12_best_44 : decode cX12_best 44 = .ok (.iload 4, 2) := by decide +kernel
theorem dX12_best_46 : decode cX12_best 46 = .ok (.istore_n 2, 1) := by decide +kernel
theorem dX12_best_47 : decode cX12_best 47 = .ok (.iload_n 3, 1) := by decide +kernel
theorem dX12_best_48 : decode cX12_best 48 = .ok (.istore_n 1, 1) := by decide +kernel
theorem dX12_best_49 : decode cX12_best 49 = .ok (.iinc 3 1, 3) := by decide +kernel
theorem dX12_best_52 : decode cX12_best 52 = .ok (.goto (-39), 3) := by decide +kernel
theorem dX12_best_55 : decode cX12_best 55 = .ok (.iload_n 1, 1) := by decide +kernel
theorem dX12_best_56 : decode cX12_best 56 = .ok (.ireturn, 1) := by decide +kernel
theorem dX12_easy_0 : decode cX12_easy 0 = .ok (.aload_n 0, 1) := by decide +kernel
theorem dX12_easy_1 : decode cX12_easy 1 = .ok (.iconst 0, 1) := by decide +kernel
theorem dX12_easy_2 : decode cX12_easy 2 = .ok (.putfield 1, 3) := by decide +kernel
theorem dX12_easy_5 : decode cX12_easy 5 = .ok (.iconst 0, 1) := by decide +kernel
theorem dX12_easy_6 : decode cX12_easy 6 = .ok (.istore_n 1, 1) := by decide +kernel
theorem dX12_easy_7 : decode cX12_easy 7 = .ok (.iconst 0, 1) := by decide +kernel
theorem dX12_easy_8 : decode cX12_easy 8 = .ok (.istore_n 2, 1) := by decide +kernel
theorem dX12_easy_9 : decode cX12_easy 9 = .ok (.iload_n 2, 1) := by decide +kernel
theorem dX12_easy_10 : decode cX12_easy 10 = .ok (.aload_n 0, 1) := by decide +kernel
theorem dX12_easy_11 : decode cX12_easy 11 = .ok (.getfield 33, 3) := by decide +kernel
theorem dX12_easy_14 : decode cX12_easy 14 = .ok (.iconst 0, 1) := by decide +kernel
theorem dX12_easy_15 : decode cX12_easy 15 = .ok (.iaload, 1) := by decide +kernel
theorem dX12_easy_16 : decode cX12_easy 16 = .ok (.if_icmp .ge 35, 3) := by decide +kernel
theorem dX12_easy_19 : decode cX12_easy 19 = .ok (.iload_n 1, 1) := by decide +kernel
theorem dX12_easy_20 : decode cX12_easy 20 = .ok (.aload_n 0, 1) := by decide +kernel
theorem dX12_easy_21 : decode cX12_easy 21 = .ok (.aload_n 0, 1) := by decide +kernel
theorem dX12_easy_22 : decode cX12_easy 22 = .ok (.aload_n 0, 1) := by decide +kernel
theorem dX12_easy_23 : decode cX12_easy 23 = .ok (.invokevirtual 281, 3) := by decide +kernel
theorem dX12_easy_26 : decode cX12_easy 26 = .ok (.iload_n 2, 1) := by decide +kernel
theorem dX12_easy_27 : decode cX12_easy 27 = .ok (.invokevirtual 287, 3) := by decide +kernel
theorem dX12_easy_30 : decode cX12_easy 30 = .ok (.invokevirtual 290, 3) := by decide +kernel
theorem dX12_easy_33 : decode cX12_easy 33 = .ok (.ifCond .eq 9, 3) := by decide +kernel
theorem dX12_easy_36 : decode cX12_easy 36 = .ok (.iconst 1, 1) := by decide +kernel
theorem dX12_easy_37 : decode cX12_easy 37 = .ok (.iload_n 2, 1) := by decide +kernel
theorem dX12_easy_38 : decode cX12_easy 38 = .ok (.ishl, 1) := by decide +kernel
theorem dX12_easy_39 : decode cX12_easy 39 = .ok (.goto 4, 3) := by decide +kernel
theorem dX12_easy_42 : decode cX12_easy 42 = .ok (.iconst 0, 1) := by decide +kernel
theorem dX12_easy_43 : decode cX12_easy 43 = .ok (.ior, 1) := by decide +kernel
theorem dX12_easy_44 : decode cX12_easy 44 = .ok (.istore_n 1, 1) := by decide +kernel
theorem dX12_easy_45 : decode cX12_easy 45 = .ok (.iinc 2 1, 3) := by decide +kernel
theorem dX12_easy_48 : decode cX12_easy 48 = .ok (.goto (-39), 3) := by decide +kernel
theorem dX12_easy_51 : decode cX12_easy 51 = .ok (.iload_n 1, 1) := by decide +kernel
theorem dX12_easy_52 : decode cX12_easy 52 = .ok (.ireturn, 1) := by decide +kernel
theorem dX12_changed_0 : decode cX12_changed 0 = .ok (.aload_n 0, 1) := by decide +kernel
theorem dX12_changed_1 : decode cX12_changed 1 = .ok (.iconst 0, 1) := by decide +kernel
theorem dX12_changed_2 : decode cX12_changed 2 = .ok (.putfield 1, 3) := by decide +kernel
theorem dX12_changed_5 : decode cX12_changed 5 = .ok (.aload_n 0, 1) := by decide +kernel
theorem dX12_changed_6 : decode cX12_changed 6 = .ok (.iload_n 1, 1) := by decide +kernel
theorem dX12_changed_7 : decode cX12_changed 7 = .ok (.invokevirtual 296, 3) := by decide +kernel
theorem dX12_changed_10 : decode cX12_changed 10 = .ok (.ifCond .eq 12, 3) := by decide +kernel
theorem dX12_changed_13 : decode cX12_changed 13 = .ok (.aload_n 0, 1) := by decide +kernel
theorem dX12_changed_14 : decode cX12_changed 14 = .ok (.getfield 33, 3) := by decide +kernel
theorem dX12_changed_17 : decode cX12_changed 17 = .ok (.iconst 0, 1) := by decide +kernel
theorem dX12_changed_18 : decode cX12_changed 18 = .ok (.iaload, 1) := by decide +kernel
theorem dX12_changed_19 : decode cX12_changed 19 = .ok (.ifCond .ne 5, 3) := by decide +kernel
theorem dX12_changed_22 : decode cX12_changed 22 = .ok (.iconst (-1), 1) := by decide +kernel
theorem dX12_changed_23 : decode cX12_changed 23 = .ok (.ireturn, 1) := by decide +kernel
theorem dX12_changed_24 : decode cX12_changed 24 = .ok (.aload_n 0, 1) := by decide +kernel
theorem dX12_changed_25 : decode cX12_changed 25 = .ok (.iload_n 1, 1) := by decide +kernel
theorem dX12_changed_26 : decode cX12_changed 26 = .ok (.aload_n 0, 1) := by decide +kernel
theorem dX12_changed_27 : decode cX12_changed 27 = .ok (.getfield 33, 3) := by decide +kernel
theorem dX12_changed_30 : decode cX12_changed 30 = .ok (.bipush 126, 2) := by decide +kernel
theorem dX12_changed_32 : decode cX12_changed 32 = .ok (.iaload, 1) := by decide +kernel
theorem dX12_changed_33 : decode cX12_changed 33 = .ok (.invokevirtual 287, 3) := by decide +kernel
theorem dX12_changed_36 : decode cX12_changed 36 = .ok (.istore_n 2, 1) := by decide +kernel
theorem dX12_changed_37 : decode cX12_changed 37 = .ok (.aload_n 0, 1) := by decide +kernel
theorem dX12_changed_38 : decode cX12_changed 38 = .ok (.iload_n 2, 1) := by decide +kernel
theorem dX12_changed_39 : decode cX12_changed 39 = .ok (.invokevirtual 290, 3) := by decide +kernel
theorem dX12_changed_42 : decode cX12_changed 42 = .ok (.ifCond .eq 5, 3) := by decide +kernel
theorem dX12_changed_45 : decode cX12_changed 45 = .ok (.iconst (-1), 1) := by decide +kernel
theorem dX12_changed_46 : decode cX12_changed 46 = .ok (.ireturn, 1) := by decide +kernel
theorem dX12_changed_47 : decode cX12_changed 47 = .ok (.iconst 0, 1) := by decide +kernel
theorem dX12_changed_48 : decode cX12_changed 48 = .ok (.istore_n 3, 1) := by decide +kernel
theorem dX12_changed_49 : decode cX12_changed 49 = .ok (.iconst 0, 1) := by decide +kernel
theorem dX12_changed_50 : decode cX12_changed 50 = .ok (.istore 4, 2) := by decide +kernel
theorem dX12_changed_52 : decode cX12_changed 52 = .ok (.iload 4, 2) := by decide +kernel
theorem dX12_changed_54 : decode cX12_changed 54 = .ok (.aload_n 0, 1) := by decide +kernel
theorem dX12_changed_55 : decode cX12_changed 55 = .ok (.getfield 33, 3) := by decide +kernel
theorem dX12_changed_58 : decode cX12_changed 58 = .ok (.iconst 1, 1) := by decide +kernel
theorem dX12_changed_59 : decode cX12_changed 59 = .ok (.iaload, 1) := by decide +kernel
theorem dX12_changed_60 : decode cX12_changed 60 = .ok (.if_icmp .ge 64, 3) := by decide +kernel
theorem dX12_changed_63 : decode cX12_changed 63 = .ok (.iload_n 3, 1) := by decide +kernel
theorem dX12_changed_64 : decode cX12_changed 64 = .ok (.iload_n 1, 1) := by decide +kernel
theorem dX12_changed_65 : decode cX12_changed 65 = .ok (.aload_n 0, 1) := by decide +kernel
theorem dX12_changed_66 : decode cX12_changed 66 = .ok (.getfield 33, 3) := by decide +kernel
theorem dX12_changed_69 : decode cX12_changed 69 = .ok (.sipush 131, 3) := by decide +kernel
theorem dX12_changed_72 : decode cX12_changed 72 = .ok (.iaload, 1) := by decide +kernel
theorem dX12_changed_73 : decode cX12_changed 73 = .ok (.iconst (-1), 1) := by decide +kernel
theorem dX12_changed_74 : decode cX12_changed 74 = .ok (.ixor, 1) := by decide +kernel
theorem dX12_changed_75 : decode cX12_changed 75 = .ok (.iand, 1) := by decide +kernel
theorem dX12_changed_76 : decode cX12_changed 76 = .ok (.iload 4, 2) := by decide +kernel
theorem dX12_changed_78 : decode cX12_changed 78 = .ok (.invokestatic 221, 3) := by decide +kernel
theorem dX12_changed_81 : decode cX12_changed 81 = .ok (.ifCond .eq 34, 3) := by decide +kernel
theorem dX12_changed_84 : decode cX12_changed 84 = .ok (.aload_n 0, 1) := by decide +kernel
theorem dX12_changed_85 : decode cX12_changed 85 = .ok (.iload_n 2, 1) := by decide +kernel
theorem dX12_changed_86 : decode cX12_changed 86 = .ok (.iconst 2, 1) := by decide +kernel
theorem dX12_changed_87 : decode cX12_changed 87 = .ok (.aload_n 0, 1) := by decide +kernel
theorem dX12_changed_88 : decode cX12_changed 88 = .ok (.iload 4, 2) := by decide +kernel
theorem dX12_changed_90 : decode cX12_changed 90 = .ok (.aload_n 0, 1) := by decide +kernel
theorem dX12_changed_91 : decode cX12_changed 91 = .ok (.getfield 33, 3) := by decide +kernel
theorem dX12_changed_94 : decode cX12_changed 94 = .ok (.bipush 126, 2) := by decide +kernel
theorem dX12_changed_96 : decode cX12_changed 96 = .ok (.iaload, 1) := by decide +kernel
theorem dX12_changed_97 : decode cX12_changed 97 = .ok (.invokevirtual 269, 3) := by decide +kernel
theorem dX12_changed_100 : decode cX12_changed 100 = .ok (.imul, 1) := by decide +kernel
theorem dX12_changed_101 : decode cX12_changed 101 = .ok (.isub, 1) := by decide +kernel
theorem dX12_changed_102 : decode cX12_changed 102 = .ok (.invokevirtual 290, 3) := by decide +kernel
theorem dX12_changed_105 : decode cX12_changed 105 = .ok (.ifCond .eq 10, 3) := by decide +kernel
theorem dX12_changed_108 : decode cX12_changed 108 = .ok (.iconst 1, 1) := by decide +kernel
theorem dX12_changed_109 : decode cX12_changed 109 = .ok (.iload 4, 2) := by decide +kernel
theorem dX12_changed_111 : decode cX12_changed 111 = .ok (.ishl, 1) := by decide +kernel
theorem dX12_changed_112 : decode cX12_changed 112 = .ok (.goto 4, 3) := by decide +kernel
theorem dX12_changed_115 : decode cX12_changed 115 = .ok (.iconst 0, 1) := by decide +kernel
theorem dX12_changed_116 : decode cX12_changed 116 = .ok (.ior, 1) := by decide +kernel
theorem dX12_changed_117 : decode cX12_changed 117 = .ok (.istore_n 3, 1) := by decide +kernel
theorem dX12_changed_118 : decode cX12_changed 118 = .ok (.iinc 4 1, 3) := by decide +kernel
theorem dX12_changed_121 : decode cX12_changed 121 = .ok (.goto (-69), 3) := by decide +kernel
theorem dX12_changed_124 : decode cX12_changed 124 = .ok (.iload_n 3, 1) := by decide +kernel
theorem dX12_changed_125 : decode cX12_changed 125 = .ok (.ireturn, 1) := by decide +kernel
theorem dX12_setAt_0 : decode cX12_setAt 0 = .ok (.aload_n 0, 1) := by decide +kernel
theorem dX12_setAt_1 : decode cX12_setAt 1 = .ok (.iconst 2, 1) := by decide +kernel
theorem dX12_setAt_2 : decode cX12_setAt 2 = .ok (.iload_n 1, 1) := by decide +kernel
theorem dX12_setAt_3 : decode cX12_setAt 3 = .ok (.imul, 1) := by decide +kernel
theorem dX12_setAt_4 : decode cX12_setAt 4 = .ok (.invokevirtual 338, 3) := by decide +kernel
theorem dX12_setAt_7 : decode cX12_setAt 7 = .ok (.bipush 8, 2) := by decide +kernel
theorem dX12_setAt_9 : decode cX12_setAt 9 = .ok (.ishl, 1) := by decide +kernel
theorem dX12_setAt_10 : decode cX12_setAt 10 = .ok (.aload_n 0, 1) := by decide +kernel
theorem dX12_setAt_11 : decode cX12_setAt 11 = .ok (.iconst 2, 1) := by decide +kernel
theorem dX12_setAt_12 : decode cX12_setAt 12 = .ok (.iload_n 1, 1) := by decide +kernel
theorem dX12_setAt_13 : decode cX12_setAt 13 = .ok (.imul, 1) := by decide +kernel
theorem dX12_setAt_14 : decode cX12_setAt 14 = .ok (.iconst 1, 1) := by decide +kernel
theorem dX12_setAt_15 : decode cX12_setAt 15 = .ok (.iadd, 1) := by decide +kernel
theorem dX12_setAt_16 : decode cX12_setAt 16 = .ok (.invokevirtual 338, 3) := by decide +kernel
theorem dX12_setAt_19 : decode cX12_setAt 19 = .ok (.ior, 1) := by decide +kernel
theorem dX12_setAt_20 : decode cX12_setAt 20 = .ok (.ireturn, 1) := by decide +kernel
theorem dX12_fitsBy_0 : decode cX12_fitsBy 0 = .ok (.iconst 0, 1) := by decide +kernel
theorem dX12_fitsBy_1 : decode cX12_fitsBy 1 = .ok (.istore_n 3, 1) := by decide +kernel
theorem dX12_fitsBy_2 : decode cX12_fitsBy 2 = .ok (.iconst 2, 1) := by decide +kernel
theorem dX12_fitsBy_3 : decode cX12_fitsBy 3 = .ok (.iload_n 3, 1) := by decide +kernel
theorem dX12_fitsBy_4 : decode cX12_fitsBy 4 = .ok (.imul, 1) := by decide +kernel
theorem dX12_fitsBy_5 : decode cX12_fitsBy 5 = .ok (.aload_n 0, 1) := by decide +kernel
theorem dX12_fitsBy_6 : decode cX12_fitsBy 6 = .ok (.getfield 18, 3) := by decide +kernel
theorem dX12_fitsBy_9 : decode cX12_fitsBy 9 = .ok (.if_icmp .ge 74, 3) := by decide +kernel
theorem dX12_fitsBy_12 : decode cX12_fitsBy 12 = .ok (.aload_n 0, 1) := by decide +kernel
theorem dX12_fitsBy_13 : decode cX12_fitsBy 13 = .ok (.iload_n 3, 1) := by decide +kernel
theorem dX12_fitsBy_14 : decode cX12_fitsBy 14 = .ok (.invokevirtual 341, 3) := by decide +kernel
theorem dX12_fitsBy_17 : decode cX12_fitsBy 17 = .ok (.iload_n 1, 1) := by decide +kernel
theorem dX12_fitsBy_18 : decode cX12_fitsBy 18 = .ok (.invokestatic 221, 3) := by decide +kernel
theorem dX12_fitsBy_21 : decode cX12_fitsBy 21 = .ok (.ifCond .ne 6, 3) := by decide +kernel
theorem dX12_fitsBy_24 : decode cX12_fitsBy 24 = .ok (.goto 53, 3) := by decide +kernel
theorem dX12_fitsBy_27 : decode cX12_fitsBy 27 = .ok (.aload_n 0, 1) := by decide +kernel
theorem dX12_fitsBy_28 : decode cX12_fitsBy 28 = .ok (.aload_n 0, 1) := by decide +kernel
theorem dX12_fitsBy_29 : decode cX12_fitsBy 29 = .ok (.iload_n 3, 1) := by decide +kernel
theorem dX12_fitsBy_30 : decode cX12_fitsBy 30 = .ok (.invokevirtual 341, 3) := by decide +kernel
theorem dX12_fitsBy_33 : decode cX12_fitsBy 33 = .ok (.iconst 1, 1) := by decide +kernel
theorem dX12_fitsBy_34 : decode cX12_fitsBy 34 = .ok (.iload_n 1, 1) := by decide +kernel
theorem dX12_fitsBy_35 : decode cX12_fitsBy 35 = .ok (.ishl, 1) := by decide +kernel
theorem dX12_fitsBy_36 : decode cX12_fitsBy 36 = .ok (.iconst (-1), 1) := by decide +kernel
theorem dX12_fitsBy_37 : decode cX12_fitsBy 37 = .ok (.ixor, 1) := by decide +kernel
theorem dX12_fitsBy_38 : decode cX12_fitsBy 38 = .ok (.iand, 1) := by decide +kernel
theorem dX12_fitsBy_39 : decode cX12_fitsBy 39 = .ok (.aload_n 0, 1) := by decide +kernel
theorem dX12_fitsBy_40 : decode cX12_fitsBy 40 = .ok (.getfield 33, 3) := by decide +kernel
theorem dX12_fitsBy_43 : decode cX12_fitsBy 43 = .ok (.bipush 126, 2) := by decide +kernel
theorem dX12_fitsBy_45 : decode cX12_fitsBy 45 = .ok (.iaload, 1) := by decide +kernel
theorem dX12_fitsBy_46 : decode cX12_fitsBy 46 = .ok (.invokevirtual 287, 3) := by decide +kernel
theorem dX12_fitsBy_49 : decode cX12_fitsBy 49 = .ok (.aload_n 0, 1) := by decide +kernel
theorem dX12_fitsBy_50 : decode cX12_fitsBy 50 = .ok (.iload_n 1, 1) := by decide +kernel
theorem dX12_fitsBy_51 : decode cX12_fitsBy 51 = .ok (.invokevirtual 311, 3) := by decide +kernel
theorem dX12_fitsBy_54 : decode cX12_fitsBy 54 = .ok (.iconst 1, 1) := by decide +kernel
theorem dX12_fitsBy_55 : decode cX12_fitsBy 55 = .ok (.if_icmp .ne 7, 3) := by decide +kernel
theorem dX12_fitsBy_58 : decode cX12_fitsBy 58 = .ok (.iconst 0, 1) := by decide +kernel
theorem dX12_fitsBy_59 : decode cX12_fitsBy 59 = .ok (.goto 4, 3) := by decide +kernel
theorem dX12_fitsBy_62 : decode cX12_fitsBy 62 = .ok (.iload_n 2, 1) := by decide +kernel
theorem dX12_fitsBy_63 : decode cX12_fitsBy 63 = .ok (.iadd, 1) := by decide +kernel
theorem dX12_fitsBy_64 : decode cX12_fitsBy 64 = .ok (.istore 4, 2) := by decide +kernel
theorem dX12_fitsBy_66 : decode cX12_fitsBy 66 = .ok (.aload_n 0, 1) := by decide +kernel
theorem dX12_fitsBy_67 : decode cX12_fitsBy 67 = .ok (.iload 4, 2) := by decide +kernel
theorem dX12_fitsBy_69 : decode cX12_fitsBy 69 = .ok (.invokevirtual 290, 3) := by decide +kernel
theorem dX12_fitsBy_72 : decode cX12_fitsBy 72 = .ok (.ifCond .ne 5, 3) := by decide +kernel
theorem dX12_fitsBy_75 : decode cX12_fitsBy 75 = .ok (.iconst 0, 1) := by decide +kernel
theorem dX12_fitsBy_76 : decode cX12_fitsBy 76 = .ok (.ireturn, 1) := by decide +kernel
theorem dX12_fitsBy_77 : decode cX12_fitsBy 77 = .ok (.iinc 3 1, 3) := by decide +kernel
theorem dX12_fitsBy_80 : decode cX12_fitsBy 80 = .ok (.goto (-78), 3) := by decide +kernel
theorem dX12_fitsBy_83 : decode cX12_fitsBy 83 = .ok (.iconst 1, 1) := by decide +kernel
theorem dX12_fitsBy_84 : decode cX12_fitsBy 84 = .ok (.ireturn, 1) := by decide +kernel
theorem dX12_fits_0 : decode cX12_fits 0 = .ok (.aload_n 0, 1) := by decide +kernel
theorem dX12_fits_1 : decode cX12_fits 1 = .ok (.iconst 0, 1) := by decide +kernel
theorem dX12_fits_2 : decode cX12_fits 2 = .ok (.putfield 1, 3) := by decide +kernel
theorem dX12_fits_5 : decode cX12_fits 5 = .ok (.aload_n 0, 1) := by decide +kernel
theorem dX12_fits_6 : decode cX12_fits 6 = .ok (.sipush 940, 3) := by decide +kernel
theorem dX12_fits_9 : decode cX12_fits 9 = .ok (.invokevirtual 237, 3) := by decide +kernel
theorem dX12_fits_12 : decode cX12_fits 12 = .ok (.aload_n 0, 1) := by decide +kernel
theorem dX12_fits_13 : decode cX12_fits 13 = .ok (.iload_n 1, 1) := by decide +kernel
theorem dX12_fits_14 : decode cX12_fits 14 = .ok (.invokevirtual 252, 3) := by decide +kernel
theorem dX12_fits_17 : decode cX12_fits 17 = .ok (.ifCond .eq 35, 3) := by decide +kernel
theorem dX12_fits_20 : decode cX12_fits 20 = .ok (.aload_n 0, 1) := by decide +kernel
theorem dX12_fits_21 : decode cX12_fits 21 = .ok (.getfield 33, 3) := by decide +kernel
theorem dX12_fits_24 : decode cX12_fits 24 = .ok (.iconst 0, 1) := by decide +kernel
theorem dX12_fits_25 : decode cX12_fits 25 = .ok (.iaload, 1) := by decide +kernel
theorem dX12_fits_26 : decode cX12_fits 26 = .ok (.ifCond .eq 26, 3) := by decide +kernel
theorem dX12_fits_29 : decode cX12_fits 29 = .ok (.aload_n 0, 1) := by decide +kernel
theorem dX12_fits_30 : decode cX12_fits 30 = .ok (.getfield 18, 3) := by decide +kernel
theorem dX12_fits_33 : decode cX12_fits 33 = .ok (.iconst 2, 1) := by decide +kernel
theorem dX12_fits_34 : decode cX12_fits 34 = .ok (.bipush 40, 2) := by decide +kernel
theorem dX12_fits_36 : decode cX12_fits 36 = .ok (.invokestatic 189, 3) := by decide +kernel
theorem dX12_fits_39 : decode cX12_fits 39 = .ok (.ifCond .eq 13, 3) := by decide +kernel
theorem dX12_fits_42 : decode cX12_fits 42 = .ok (.aload_n 0, 1) := by decide +kernel
theorem dX12_fits_43 : decode cX12_fits 43 = .ok (.getfield 18, 3) := by decide +kernel
theorem dX12_fits_46 : decode cX12_fits 46 = .ok (.iconst 2, 1) := by decide +kernel
theorem dX12_fits_47 : decode cX12_fits 47 = .ok (.irem, 1) := by decide +kernel
theorem dX12_fits_48 : decode cX12_fits 48 = .ok (.iconst 1, 1) := by decide +kernel
theorem dX12_fits_49 : decode cX12_fits 49 = .ok (.if_icmp .ne 5, 3) := by decide +kernel
theorem dX12_fits_52 : decode cX12_fits 52 = .ok (.iconst (-1), 1) := by decide +kernel
theorem dX12_fits_53 : decode cX12_fits 53 = .ok (.ireturn, 1) := by decide +kernel
theorem dX12_fits_54 : decode cX12_fits 54 = .ok (.iconst 0, 1) := by decide +kernel
theorem dX12_fits_55 : decode cX12_fits 55 = .ok (.istore_n 2, 1) := by decide +kernel
theorem dX12_fits_56 : decode cX12_fits 56 = .ok (.iconst 2, 1) := by decide +kernel
theorem dX12_fits_57 : decode cX12_fits 57 = .ok (.iload_n 2, 1) := by decide +kernel
theorem dX12_fits_58 : decode cX12_fits 58 = .ok (.imul, 1) := by decide +kernel
theorem dX12_fits_59 : decode cX12_fits 59 = .ok (.aload_n 0, 1) := by decide +kernel
theorem dX12_fits_60 : decode cX12_fits 60 = .ok (.getfield 18, 3) := by decide +kernel
theorem dX12_fits_63 : decode cX12_fits 63 = .ok (.if_icmp .ge 23, 3) := by decide +kernel
theorem dX12_fits_66 : decode cX12_fits 66 = .ok (.aload_n 0, 1) := by decide +kernel
theorem dX12_fits_67 : decode cX12_fits 67 = .ok (.aload_n 0, 1) := by decide +kernel
theorem dX12_fits_68 : decode cX12_fits 68 = .ok (.iload_n 2, 1) := by decide +kernel
theorem dX12_fits_69 : decode cX12_fits 69 = .ok (.invokevirtual 341, 3) := by decide +kernel
theorem dX12_fits_72 : decode cX12_fits 72 = .ok (.invokevirtual 296, 3) := by decide +kernel
theorem dX12_fits_75 : decode cX12_fits 75 = .ok (.ifCond .ne 5, 3) := by decide +kernel
theorem dX12_fits_78 : decode cX12_fits 78 = .ok (.iconst (-1), 1) := by decide +kernel
theorem dX12_fits_79 : decode cX12_fits 79 = .ok (.ireturn, 1) := by decide +kernel
theorem dX12_fits_80 : decode cX12_fits 80 = .ok (.iinc 2 1, 3) := by decide +kernel
theorem dX12_fits_83 : decode cX12_fits 83 = .ok (.goto (-27), 3) := by decide +kernel
theorem dX12_fits_86 : decode cX12_fits 86 = .ok (.iconst 0, 1) := by decide +kernel
theorem dX12_fits_87 : decode cX12_fits 87 = .ok (.istore_n 2, 1) := by decide +kernel
theorem dX12_fits_88 : decode cX12_fits 88 = .ok (.bipush (-9), 2) := by decide +kernel
theorem dX12_fits_90 : decode cX12_fits 90 = .ok (.istore_n 3, 1) := by decide +kernel
theorem dX12_fits_91 : decode cX12_fits 91 = .ok (.iload_n 3, 1) := by decide +kernel
theorem dX12_fits_92 : decode cX12_fits 92 = .ok (.bipush 10, 2) := by decide +kernel
theorem dX12_fits_94 : decode cX12_fits 94 = .ok (.if_icmp .ge 43, 3) := by decide +kernel
theorem dX12_fits_97 : decode cX12_fits 97 = .ok (.aload_n 0, 1) := by decide +kernel
theorem dX12_fits_98 : decode cX12_fits 98 = .ok (.iload_n 1, 1) := by decide +kernel
theorem dX12_fits_99 : decode cX12_fits 99 = .ok (.iload_n 3, 1) := by decide +kernel
theorem dX12_fits_100 : decode cX12_fits 100 = .ok (.invokevirtual 344, 3) := by decide +kernel
theorem dX12_fits_103 : decode cX12_fits 103 = .ok (.ifCond .ne 6, 3) := by decide +kernel
theorem dX12_fits_106 : decode cX12_fits 106 = .ok (.goto 25, 3) := by decide +kernel
theorem dX12_fits_109 : decode cX12_fits 109 = .ok (.iload_n 2, 1) := by decide +kernel
theorem dX12_fits_110 : decode cX12_fits 110 = .ok (.ifCond .ne 8, 3) := by decide +kernel
theorem dX12_fits_113 : decode cX12_fits 113 = .ok (.aload_n 0, 1) := by decide +kernel
theorem dX12_fits_114 : decode cX12_fits 114 = .ok (.iload_n 3, 1) := by decide +kernel
theorem dX12_fits_115 : decode cX12_fits 115 = .ok (.putfield 347, 3) := by decide +kernel
theorem dX12_fits_118 : decode cX12_fits 118 = .ok (.aload_n 0, 1) := by decide +kernel
theorem dX12_fits_119 : decode cX12_fits 119 = .ok (.iload_n 3, 1) := by decide +kernel
theorem dX12_fits_120 : decode cX12_fits 120 = .ok (.putfield 350, 3) := by decide +kernel
theorem dX12_fits_123 : decode cX12_fits 123 = .ok (.aload_n 0, 1) := by decide +kernel
theorem dX12_fits_124 : decode cX12_fits 124 = .ok (.iconst 1, 1) := by decide +kernel
theorem dX12_fits_125 : decode cX12_fits 125 = .ok (.putfield 353, 3) := by decide +kernel
theorem dX12_fits_128 : decode cX12_fits 128 = .ok (.iinc 2 1, 3) := by decide +kernel
theorem dX12_fits_131 : decode cX12_fits 131 = .ok (.iinc 3 1, 3) := by decide +kernel
theorem dX12_fits_134 : decode cX12_fits 134 = .ok (.goto (-43), 3) := by decide +kernel
theorem dX12_fits_137 : decode cX12_fits 137 = .ok (.iload_n 2, 1) := by decide +kernel
theorem dX12_fits_138 : decode cX12_fits 138 = .ok (.ireturn, 1) := by decide +kernel
theorem dX12_fit_0 : decode cX12_fit 0 = .ok (.aload_n 0, 1) := by decide +kernel
theorem dX12_fit_1 : decode cX12_fit 1 = .ok (.iconst 0, 1) := by decide +kernel
theorem dX12_fit_2 : decode cX12_fit 2 = .ok (.putfield 1, 3) := by decide +kernel
theorem dX12_fit_5 : decode cX12_fit 5 = .ok (.aload_n 0, 1) := by decide +kernel
theorem dX12_fit_6 : decode cX12_fit 6 = .ok (.getfield 353, 3) := by decide +kernel
theorem dX12_fit_9 : decode cX12_fit 9 = .ok (.ifCond .ne 8, 3) := by decide +kernel
theorem dX12_fit_12 : decode cX12_fit 12 = .ok (.bipush (-101), 2) := by decide +kernel
theorem dX12_fit_14 : decode cX12_fit 14 = .ok (.goto 28, 3) := by decide +kernel
theorem dX12_fit_17 : decode cX12_fit 17 = .ok (.iload_n 1, 1) := by decide +kernel
theorem dX12_fit_18 : decode cX12_fit 18 = .ok (.ifCond .ne 10, 3) := by decide +kernel
theorem dX12_fit_21 : decode cX12_fit 21 = .ok (.aload_n 0, 1) := by decide +kernel
theorem dX12_fit_22 : decode cX12_fit 22 = .ok (.getfield 347, 3) := by decide +kernel
theorem dX12_fit_25 : decode cX12_fit 25 = .ok (.goto 17, 3) := by decide +kernel
theorem dX12_fit_28 : decode cX12_fit 28 = .ok (.iload_n 1, 1) := by decide +kernel
theorem dX12_fit_29 : decode cX12_fit 29 = .ok (.iconst 1, 1) := by decide +kernel
theorem dX12_fit_30 : decode cX12_fit 30 = .ok (.if_icmp .ne 10, 3) := by decide +kernel
theorem dX12_fit_33 : decode cX12_fit 33 = .ok (.aload_n 0, 1) := by decide +kernel
theorem dX12_fit_34 : decode cX12_fit 34 = .ok (.getfield 350, 3) := by decide +kernel
theorem dX12_fit_37 : decode cX12_fit 37 = .ok (.goto 5, 3) := by decide +kernel
theorem dX12_fit_40 : decode cX12_fit 40 = .ok (.bipush (-101), 2) := by decide +kernel
theorem dX12_fit_42 : decode cX12_fit 42 = .ok (.ireturn, 1) := by decide +kernel
theorem dX12_canPair_0 : decode cX12_canPair 0 = .ok (.aload_n 0, 1) := by decide +kernel
theorem dX12_canPair_1 : decode cX12_canPair 1 = .ok (.getfield 33, 3) := by decide +kernel
theorem dX12_canPair_4 : decode cX12_canPair 4 = .ok (.iconst 0, 1) := by decide +kernel
theorem dX12_canPair_5 : decode cX12_canPair 5 = .ok (.iaload, 1) := by decide +kernel
theorem dX12_canPair_6 : decode cX12_canPair 6 = .ok (.ifCond .le 41, 3) := by decide +kernel
theorem dX12_canPair_9 : decode cX12_canPair 9 = .ok (.aload_n 0, 1) := by decide +kernel
theorem dX12_canPair_10 : decode cX12_canPair 10 = .ok (.aload_n 0, 1) := by decide +kernel
theorem dX12_canPair_11 : decode cX12_canPair 11 = .ok (.iconst 1, 1) := by decide +kernel
theorem dX12_canPair_12 : decode cX12_canPair 12 = .ok (.iload_n 1, 1) := by decide +kernel
theorem dX12_canPair_13 : decode cX12_canPair 13 = .ok (.ishl, 1) := by decide +kernel
theorem dX12_canPair_14 : decode cX12_canPair 14 = .ok (.iconst 1, 1) := by decide +kernel
theorem dX12_canPair_15 : decode cX12_canPair 15 = .ok (.iload_n 2, 1) := by decide +kernel
theorem dX12_canPair_16 : decode cX12_canPair 16 = .ok (.ishl, 1) := by decide +kernel
theorem dX12_canPair_17 : decode cX12_canPair 17 = .ok (.ior, 1) := by decide +kernel
theorem dX12_canPair_18 : decode cX12_canPair 18 = .ok (.aload_n 0, 1) := by decide +kernel
theorem dX12_canPair_19 : decode cX12_canPair 19 = .ok (.getfield 33, 3) := by decide +kernel
theorem dX12_canPair_22 : decode cX12_canPair 22 = .ok (.bipush 126, 2) := by decide +kernel
theorem dX12_canPair_24 : decode cX12_canPair 24 = .ok (.iaload, 1) := by decide +kernel
theorem dX12_canPair_25 : decode cX12_canPair 25 = .ok (.invokevirtual 287, 3) := by decide +kernel
theorem dX12_canPair_28 : decode cX12_canPair 28 = .ok (.invokevirtual 290, 3) := by decide +kernel
theorem dX12_canPair_31 : decode cX12_canPair 31 = .ok (.ifCond .eq 16, 3) := by decide +kernel
theorem dX12_canPair_34 : decode cX12_canPair 34 = .ok (.aload_n 0, 1) := by decide +kernel
theorem dX12_canPair_35 : decode cX12_canPair 35 = .ok (.iload_n 1, 1) := by decide +kernel
theorem dX12_canPair_36 : decode cX12_canPair 36 = .ok (.iload_n 2, 1) := by decide +kernel
theorem dX12_canPair_37 : decode cX12_canPair 37 = .ok (.invokevirtual 278, 3) := by decide +kernel
theorem dX12_canPair_40 : decode cX12_canPair 40 = .ok (.ifCond .ne 7, 3) := by decide +kernel
theorem dX12_canPair_43 : decode cX12_canPair 43 = .ok (.iconst 1, 1) := by decide +kernel
theorem dX12_canPair_44 : decode cX12_canPair 44 = .ok (.goto 4, 3) := by decide +kernel
theorem dX12_canPair_47 : decode cX12_canPair 47 = .ok (.iconst 0, 1) := by decide +kernel
theorem dX12_canPair_48 : decode cX12_canPair 48 = .ok (.ireturn, 1) := by decide +kernel
theorem dX12_leastIn_0 : decode cX12_leastIn 0 = .ok (.iconst 0, 1) := by decide +kernel
theorem dX12_leastIn_1 : decode cX12_leastIn 1 = .ok (.istore_n 2, 1) := by decide +kernel
theorem dX12_leastIn_2 : decode cX12_leastIn 2 = .ok (.iload_n 1, 1) := by decide +kernel
theorem dX12_leastIn_3 : decode cX12_leastIn 3 = .ok (.iload_n 2, 1) := by decide +kernel
theorem dX12_leastIn_4 : decode cX12_leastIn 4 = .ok (.invokestatic 221, 3) := by decide +kernel
theorem dX12_leastIn_7 : decode cX12_leastIn 7 = .ok (.ifCond .ne 9, 3) := by decide +kernel
theorem dX12_leastIn_10 : decode cX12_leastIn 10 = .ok (.iinc 2 1, 3) := by decide +kernel
theorem dX12_leastIn_13 : decode cX12_leastIn 13 = .ok (.goto (-11), 3) := by decide +kernel
theorem dX12_leastIn_16 : decode cX12_leastIn 16 = .ok (.iload_n 2, 1) := by decide +kernel
theorem dX12_leastIn_17 : decode cX12_leastIn 17 = .ok (.ireturn, 1) := by decide +kernel
theorem dX12_couples_0 : decode cX12_couples 0 = .ok (.aload_n 0, 1) := by decide +kernel
theorem dX12_couples_1 : decode cX12_couples 1 = .ok (.iconst 0, 1) := by decide +kernel
theorem dX12_couples_2 : decode cX12_couples 2 = .ok (.putfield 1, 3) := by decide +kernel
theorem dX12_couples_5 : decode cX12_couples 5 = .ok (.iconst 1, 1) := by decide +kernel
theorem dX12_couples_6 : decode cX12_couples 6 = .ok (.aload_n 0, 1) := by decide +kernel
theorem dX12_couples_7 : decode cX12_couples 7 = .ok (.getfield 33, 3) := by decide +kernel
theorem dX12_couples_10 : decode cX12_couples 10 = .ok (.iconst 1, 1) := by decide +kernel
theorem dX12_couples_11 : decode cX12_couples 11 = .ok (.iaload, 1) := by decide +kernel
theorem dX12_couples_12 : decode cX12_couples 12 = .ok (.ishl, 1) := by decide +kernel
theorem dX12_couples_13 : decode cX12_couples 13 = .ok (.iconst 1, 1) := by decide +kernel
theorem dX12_couples_14 : decode cX12_couples 14 = .ok (.isub, 1) := by decide +kernel
theorem dX12_couples_15 : decode cX12_couples 15 = .ok (.istore_n 1, 1) := by decide +kernel
theorem dX12_couples_16 : decode cX12_couples 16 = .ok (.iconst 1, 1) := by decide +kernel
theorem dX12_couples_17 : decode cX12_couples 17 = .ok (.istore_n 2, 1) := by decide +kernel
theorem dX12_couples_18 : decode cX12_couples 18 = .ok (.iload_n 2, 1) := by decide +kernel
theorem dX12_couples_19 : decode cX12_couples 19 = .ok (.iload_n 1, 1) := by decide +kernel
theorem dX12_couples_20 : decode cX12_couples 20 = .ok (.if_icmp .gt 124, 3) := by decide +kernel
theorem dX12_couples_23 : decode cX12_couples 23 = .ok (.aload_n 0, 1) := by decide +kernel
theorem dX12_couples_24 : decode cX12_couples 24 = .ok (.iload_n 2, 1) := by decide +kernel
theorem dX12_couples_25 : decode cX12_couples 25 = .ok (.invokevirtual 357, 3) := by decide +kernel
theorem dX12_couples_28 : decode cX12_couples 28 = .ok (.istore_n 3, 1) := by decide +kernel
theorem dX12_couples_29 : decode cX12_couples 29 = .ok (.iload_n 2, 1) := by decide +kernel
theorem dX12_couples_30 : decode cX12_couples 30 = .ok (.iconst 1, 1) := by decide +kernel
theorem dX12_couples_31 : decode cX12_couples 31 = .ok (.iload_n 3, 1) := by decide +kernel
theorem dX12_couples_32 : decode cX12_couples 32 = .ok (.ishl, 1) := by decide +kernel
theorem dX12_couples_33 : decode cX12_couples 33 = .ok (.iconst (-1), 1) := by decide +kernel
theorem dX12_couples_34 : decode cX12_couples 34 = .ok (.ixor, 1) := by decide +kernel
theorem dX12_couples_35 : decode cX12_couples 35 = .ok (.iand, 1) := by decide +kernel
theorem dX12_couples_36 : decode cX12_couples 36 = .ok (.istore 4, 2) := by decide +kernel
theorem dX12_couples_38 : decode cX12_couples 38 = .ok (.aload_n 0, 1) := by decide +kernel
theorem dX12_couples_39 : decode cX12_couples 39 = .ok (.getfield 66, 3) := by decide +kernel
theorem dX12_couples_42 : decode cX12_couples 42 = .ok (.iload_n 2, 1) := by decide +kernel
theorem dX12_couples_43 : decode cX12_couples 43 = .ok (.aload_n 0, 1) := by decide +kernel
theorem dX12_couples_44 : decode cX12_couples 44 = .ok (.getfield 66, 3) := by decide +kernel
theorem dX12_couples_47 : decode cX12_couples 47 = .ok (.iload 4, 2) := by decide +kernel
theorem dX12_couples_49 : decode cX12_couples 49 = .ok (.iaload, 1) := by decide +kernel
theorem dX12_couples_50 : decode cX12_couples 50 = .ok (.iastore, 1) := by decide +kernel
theorem dX12_couples_51 : decode cX12_couples 51 = .ok (.iconst 0, 1) := by decide +kernel
theorem dX12_couples_52 : decode cX12_couples 52 = .ok (.istore 5, 2) := by decide +kernel
theorem dX12_couples_54 : decode cX12_couples 54 = .ok (.iload 5, 2) := by decide +kernel
theorem dX12_couples_56 : decode cX12_couples 56 = .ok (.aload_n 0, 1) := by decide +kernel
theorem dX12_couples_57 : decode cX12_couples 57 = .ok (.getfield 33, 3) := by decide +kernel
theorem dX12_couples_60 : decode cX12_couples 60 = .ok (.iconst 1, 1) := by decide +kernel
theorem dX12_couples_61 : decode cX12_couples 61 = .ok (.iaload, 1) := by decide +kernel
theorem dX12_couples_62 : decode cX12_couples 62 = .ok (.if_icmp .ge 76, 3) := by decide +kernel
theorem dX12_couples_65 : decode cX12_couples 65 = .ok (.iload 4, 2) := by decide +kernel
theorem dX12_couples_67 : decode cX12_couples 67 = .ok (.iload 5, 2) := by decide +kernel
theorem dX12_couples_69 : decode cX12_couples 69 = .ok (.invokestatic 221, 3) := by decide +kernel
theorem dX12_couples_72 : decode cX12_couples 72 = .ok (.ifCond .eq 60, 3) := by decide +kernel
theorem dX12_couples_75 : decode cX12_couples 75 = .ok (.iconst 1, 1) := by decide +kernel
theorem dX12_couples_76 : decode cX12_couples 76 = .ok (.aload_n 0, 1) := by decide +kernel
theorem dX12_couples_77 : decode cX12_couples 77 = .ok (.getfield 66, 3) := by decide +kernel
theorem dX12_couples_80 : decode cX12_couples 80 = .ok (.iload 4, 2) := by decide +kernel
theorem dX12_couples_82 : decode cX12_couples 82 = .ok (.iconst 1, 1) := by decide +kernel
theorem dX12_couples_83 : decode cX12_couples 83 = .ok (.iload 5, 2) := by decide +kernel
theorem dX12_couples_85 : decode cX12_couples 85 = .ok (.ishl, 1) := by decide +kernel
theorem dX12_couples_86 : decode cX12_couples 86 = .ok (.iconst (-1), 1) := by decide +kernel
theorem dX12_couples_87 : decode cX12_couples 87 = .ok (.ixor, 1) := by decide +kernel
theorem dX12_couples_88 : decode cX12_couples 88 = .ok (.iand, 1) := by decide +kernel
theorem dX12_couples_89 : decode cX12_couples 89 = .ok (.iaload, 1) := by decide +kernel
theorem dX12_couples_90 : decode cX12_couples 90 = .ok (.iadd, 1) := by decide +kernel
theorem dX12_couples_91 : decode cX12_couples 91 = .ok (.aload_n 0, 1) := by decide +kernel
theorem dX12_couples_92 : decode cX12_couples 92 = .ok (.getfield 66, 3) := by decide +kernel
theorem dX12_couples_95 : decode cX12_couples 95 = .ok (.iload_n 2, 1) := by decide +kernel
theorem dX12_couples_96 : decode cX12_couples 96 = .ok (.iaload, 1) := by decide +kernel
theorem dX12_couples_97 : decode cX12_couples 97 = .ok (.if_icmp .le 35, 3) := by decide +kernel
theorem dX12_couples_100 : decode cX12_couples 100 = .ok (.aload_n 0, 1) := by decide +kernel
theorem dX12_couples_101 : decode cX12_couples 101 = .ok (.iload_n 3, 1) := by decide +kernel
theorem dX12_couples_102 : decode cX12_couples 102 = .ok (.iload 5, 2) := by decide +kernel
theorem dX12_couples_104 : decode cX12_couples 104 = .ok (.invokevirtual 360, 3) := by decide +kernel
theorem dX12_couples_107 : decode cX12_couples 107 = .ok (.ifCond .eq 25, 3) := by decide +kernel
theorem dX12_couples_110 : decode cX12_couples 110 = .ok (.aload_n 0, 1) := by decide +kernel
theorem dX12_couples_111 : decode cX12_couples 111 = .ok (.getfield 66, 3) := by decide +kernel
theorem dX12_couples_114 : decode cX12_couples 114 = .ok (.iload_n 2, 1) := by decide +kernel
theorem dX12_couples_115 : decode cX12_couples 115 = .ok (.iconst 1, 1) := by decide +kernel
theorem dX12_couples_116 : decode cX12_couples 116 = .ok (.aload_n 0, 1) := by decide +kernel
theorem dX12_couples_117 : decode cX12_couples 117 = .ok (.getfield 66, 3) := by decide +kernel
theorem dX12_couples_120 : decode cX12_couples 120 = .ok (.iload 4, 2) := by decide +kernel
theorem dX12_couples_122 : decode cX12_couples 122 = .ok (.iconst 1, 1) := by decide +kernel
theorem dX12_couples_123 : decode cX12_couples 123 = .ok (.iload 5, 2) := by decide +kernel
theorem dX12_couples_125 : decode cX12_couples 125 = .ok (.ishl, 1) := by decide +kernel
theorem dX12_couples_126 : decode cX12_couples 126 = .ok (.iconst (-1), 1) := by decide +kernel
theorem dX12_couples_127 : decode cX12_couples 127 = .ok (.ixor, 1) := by decide +kernel
theorem dX12_couples_128 : decode cX12_couples 128 = .ok (.iand, 1) := by decide +kernel
theorem dX12_couples_129 : decode cX12_couples 129 = .ok (.iaload, 1) := by decide +kernel
theorem dX12_couples_130 : decode cX12_couples 130 = .ok (.iadd, 1) := by decide +kernel
theorem dX12_couples_131 : decode cX12_couples 131 = .ok (.iastore, 1) := by decide +kernel
theorem dX12_couples_132 : decode cX12_couples 132 = .ok (.iinc 5 1, 3) := by decide +kernel
theorem dX12_couples_135 : decode cX12_couples 135 = .ok (.goto (-81), 3) := by decide +kernel
theorem dX12_couples_138 : decode cX12_couples 138 = .ok (.iinc 2 1, 3) := by decide +kernel
theorem dX12_couples_141 : decode cX12_couples 141 = .ok (.goto (-123), 3) := by decide +kernel
theorem dX12_couples_144 : decode cX12_couples 144 = .ok (.iload_n 1, 1) := by decide +kernel
theorem dX12_couples_145 : decode cX12_couples 145 = .ok (.istore_n 2, 1) := by decide +kernel
theorem dX12_couples_146 : decode cX12_couples 146 = .ok (.iload_n 2, 1) := by decide +kernel
theorem dX12_couples_147 : decode cX12_couples 147 = .ok (.ifCond .eq 131, 3) := by decide +kernel
theorem dX12_couples_150 : decode cX12_couples 150 = .ok (.aload_n 0, 1) := by decide +kernel
theorem dX12_couples_151 : decode cX12_couples 151 = .ok (.iload_n 2, 1) := by decide +kernel
theorem dX12_couples_152 : decode cX12_couples 152 = .ok (.invokevirtual 357, 3) := by decide +kernel
theorem dX12_couples_155 : decode cX12_couples 155 = .ok (.istore_n 3, 1) := by decide +kernel
theorem dX12_couples_156 : decode cX12_couples 156 = .ok (.iload_n 2, 1) := by decide +kernel
theorem dX12_couples_157 : decode cX12_couples 157 = .ok (.iconst 1, 1) := by decide +kernel
theorem dX12_couples_158 : decode cX12_couples 158 = .ok (.iload_n 3, 1) := by decide +kernel
theorem dX12_couples_159 : decode cX12_couples 159 = .ok (.ishl, 1) := by decide +kernel
theorem dX12_couples_160 : decode cX12_couples 160 = .ok (.iconst (-1), 1) := by decide +kernel
theorem dX12_couples_161 : decode cX12_couples 161 = .ok (.ixor, 1) := by decide +kernel
theorem dX12_couples_162 : decode cX12_couples 162 = .ok (.iand, 1) := by decide +kernel
theorem dX12_couples_163 : decode cX12_couples 163 = .ok (.istore_n 2, 1) := by decide +kernel
theorem dX12_couples_164 : decode cX12_couples 164 = .ok (.aload_n 0, 1) := by decide +kernel
theorem dX12_couples_165 : decode cX12_couples 165 = .ok (.getfield 69, 3) := by decide +kernel
theorem dX12_couples_168 : decode cX12_couples 168 = .ok (.iload_n 3, 1) := by decide +kernel
theorem dX12_couples_169 : decode cX12_couples 169 = .ok (.iconst (-1), 1) := by decide +kernel
theorem dX12_couples_170 : decode cX12_couples 170 = .ok (.iastore, 1) := by decide +kernel
theorem dX12_couples_171 : decode cX12_couples 171 = .ok (.iconst 0, 1) := by decide +kernel
theorem dX12_couples_172 : decode cX12_couples 172 = .ok (.istore 4, 2) := by decide +kernel
theorem dX12_couples_174 : decode cX12_couples 174 = .ok (.iload 4, 2) := by decide +kernel
theorem dX12_couples_176 : decode cX12_couples 176 = .ok (.aload_n 0, 1) := by decide +kernel
theorem dX12_couples_177 : decode cX12_couples 177 = .ok (.getfield 33, 3) := by decide +kernel
theorem dX12_couples_180 : decode cX12_couples 180 = .ok (.iconst 1, 1) := by decide +kernel
theorem dX12_couples_181 : decode cX12_couples 181 = .ok (.iaload, 1) := by decide +kernel
theorem dX12_couples_182 : decode cX12_couples 182 = .ok (.if_icmp .ge 93, 3) := by decide +kernel
theorem dX12_couples_185 : decode cX12_couples 185 = .ok (.aload_n 0, 1) := by decide +kernel
theorem dX12_couples_186 : decode cX12_couples 186 = .ok (.getfield 69, 3) := by decide +kernel
theorem dX12_couples_189 : decode cX12_couples 189 = .ok (.iload_n 3, 1) := by decide +kernel
theorem dX12_couples_190 : decode cX12_couples 190 = .ok (.iaload, 1) := by decide +kernel
theorem dX12_couples_191 : decode cX12_couples 191 = .ok (.ifCond .ge 84, 3) := by decide +kernel
theorem dX12_couples_194 : decode cX12_couples 194 = .ok (.iload_n 2, 1) := by decide +kernel
theorem dX12_couples_195 : decode cX12_couples 195 = .ok (.iload 4, 2) := by decide +kernel
theorem dX12_couples_197 : decode cX12_couples 197 = .ok (.invokestatic 221, 3) := by decide +kernel
theorem dX12_couples_200 : decode cX12_couples 200 = .ok (.ifCond .eq 69, 3) := by decide +kernel
theorem dX12_couples_203 : decode cX12_couples 203 = .ok (.iconst 1, 1) := by decide +kernel
theorem dX12_couples_204 : decode cX12_couples 204 = .ok (.aload_n 0, 1) := by decide +kernel
theorem dX12_couples_205 : decode cX12_couples 205 = .ok (.getfield 66, 3) := by decide +kernel
theorem dX12_couples_208 : decode cX12_couples 208 = .ok (.iload_n 2, 1) := by decide +kernel
theorem dX12_couples_209 : decode cX12_couples 209 = .ok (.iconst 1, 1) := by decide +kernel
theorem dX12_couples_210 : decode cX12_couples 210 = .ok (.iload 4, 2) := by decide +kernel
theorem dX12_couples_212 : decode cX12_couples 212 = .ok (.ishl, 1) := by decide +kernel
theorem dX12_couples_213 : decode cX12_couples 213 = .ok (.iconst (-1), 1) := by decide +kernel
theorem dX12_couples_214 : decode cX12_couples 214 = .ok (.ixor, 1) := by decide +kernel
theorem dX12_couples_215 : decode cX12_couples 215 = .ok (.iand, 1) := by decide +kernel
theorem dX12_couples_216 : decode cX12_couples 216 = .ok (.iaload, 1) := by decide +kernel
theorem dX12_couples_217 : decode cX12_couples 217 = .ok (.iadd, 1) := by decide +kernel
theorem dX12_couples_218 : decode cX12_couples 218 = .ok (.aload_n 0, 1) := by decide +kernel
theorem dX12_couples_219 : decode cX12_couples 219 = .ok (.getfield 66, 3) := by decide +kernel
theorem dX12_couples_222 : decode cX12_couples 222 = .ok (.iload_n 2, 1) := by decide +kernel
theorem dX12_couples_223 : decode cX12_couples 223 = .ok (.iconst 1, 1) := by decide +kernel
theorem dX12_couples_224 : decode cX12_couples 224 = .ok (.iload_n 3, 1) := by decide +kernel
theorem dX12_couples_225 : decode cX12_couples 225 = .ok (.ishl, 1) := by decide +kernel
theorem dX12_couples_226 : decode cX12_couples 226 = .ok (.ior, 1) := by decide +kernel
theorem dX12_couples_227 : decode cX12_couples 227 = .ok (.iaload, 1) := by decide +kernel
theorem dX12_couples_228 : decode cX12_couples 228 = .ok (.if_icmp .ne 41, 3) := by decide +kernel
theorem dX12_couples_231 : decode cX12_couples 231 = .ok (.aload_n 0, 1) := by decide +kernel
theorem dX12_couples_232 : decode cX12_couples 232 = .ok (.iload_n 3, 1) := by decide +kernel
theorem dX12_couples_233 : decode cX12_couples 233 = .ok (.iload 4, 2) := by decide +kernel
theorem dX12_couples_235 : decode cX12_couples 235 = .ok (.invokevirtual 360, 3) := by decide +kernel
theorem dX12_couples_238 : decode cX12_couples 238 = .ok (.ifCond .ne 6, 3) := by decide +kernel
theorem dX12_couples_241 : decode cX12_couples 241 = .ok (.goto 28, 3) := by decide +kernel
theorem dX12_couples_244 : decode cX12_couples 244 = .ok (.aload_n 0, 1) := by decide +kernel
theorem dX12_couples_245 : decode cX12_couples 245 = .ok (.getfield 69, 3) := by decide +kernel
theorem dX12_couples_248 : decode cX12_couples 248 = .ok (.iload_n 3, 1) := by decide +kernel
theorem dX12_couples_249 : decode cX12_couples 249 = .ok (.iload 4, 2) := by decide +kernel
theorem dX12_couples_251 : decode cX12_couples 251 = .ok (.iastore, 1) := by decide +kernel
theorem dX12_couples_252 : decode cX12_couples 252 = .ok (.aload_n 0, 1) := by decide +kernel
theorem dX12_couples_253 : decode cX12_couples 253 = .ok (.getfield 69, 3) := by decide +kernel
theorem dX12_couples_256 : decode cX12_couples 256 = .ok (.iload 4, 2) := by decide +kernel
theorem dX12_couples_258 : decode cX12_couples 258 = .ok (.iload_n 3, 1) := by decide +kernel
theorem dX12_couples_259 : decode cX12_couples 259 = .ok (.iastore, 1) := by decide +kernel
theorem dX12_couples_260 : decode cX12_couples 260 = .ok (.iload_n 2, 1) := by decide +kernel
theorem dX12_couples_261 : decode cX12_couples 261 = .ok (.iconst 1, 1) := by decide +kernel
theorem dX12_couples_262 : decode cX12_couples 262 = .ok (.iload 4, 2) := by decide +kernel
theorem dX12_couples_264 : decode cX12_couples 264 = .ok (.ishl, 1) := by decide +kernel
theorem dX12_couples_265 : decode cX12_couples 265 = .ok (.iconst (-1), 1) := by decide +kernel
theorem dX12_couples_266 : decode cX12_couples 266 = .ok (.ixor, 1) := by decide +kernel
theorem dX12_couples_267 : decode cX12_couples 267 = .ok (.iand, 1) := by decide +kernel
theorem dX12_couples_268 : decode cX12_couples 268 = .ok (.istore_n 2, 1) := by decide +kernel
theorem dX12_couples_269 : decode cX12_couples 269 = .ok (.iinc 4 1, 3) := by decide +kernel
theorem dX12_couples_272 : decode cX12_couples 272 = .ok (.goto (-98), 3) := by decide +kernel
theorem dX12_couples_275 : decode cX12_couples 275 = .ok (.goto (-129), 3) := by decide +kernel
theorem dX12_couples_278 : decode cX12_couples 278 = .ok (.aload_n 0, 1) := by decide +kernel
theorem dX12_couples_279 : decode cX12_couples 279 = .ok (.aload_n 0, 1) := by decide +kernel
theorem dX12_couples_280 : decode cX12_couples 280 = .ok (.getfield 33, 3) := by decide +kernel
theorem dX12_couples_283 : decode cX12_couples 283 = .ok (.iconst 1, 1) := by decide +kernel
theorem dX12_couples_284 : decode cX12_couples 284 = .ok (.iaload, 1) := by decide +kernel
theorem dX12_couples_285 : decode cX12_couples 285 = .ok (.putfield 72, 3) := by decide +kernel
theorem dX12_couples_288 : decode cX12_couples 288 = .ok (.aload_n 0, 1) := by decide +kernel
theorem dX12_couples_289 : decode cX12_couples 289 = .ok (.getfield 66, 3) := by decide +kernel
theorem dX12_couples_292 : decode cX12_couples 292 = .ok (.iload_n 1, 1) := by decide +kernel
theorem dX12_couples_293 : decode cX12_couples 293 = .ok (.iaload, 1) := by decide +kernel
theorem dX12_couples_294 : decode cX12_couples 294 = .ok (.ireturn, 1) := by decide +kernel
theorem dX12_couple_0 : decode cX12_couple 0 = .ok (.aload_n 0, 1) := by decide +kernel
theorem dX12_couple_1 : decode cX12_couple 1 = .ok (.iconst 0, 1) := by decide +kernel
theorem dX12_couple_2 : decode cX12_couple 2 = .ok (.putfield 1, 3) := by decide +kernel
theorem dX12_couple_5 : decode cX12_couple 5 = .ok (.iload_n 1, 1) := by decide +kernel
theorem dX12_couple_6 : decode cX12_couple 6 = .ok (.iconst 0, 1) := by decide +kernel
theorem dX12_couple_7 : decode cX12_couple 7 = .ok (.aload_n 0, 1) := by decide +kernel
theorem dX12_couple_8 : decode cX12_couple 8 = .ok (.getfield 72, 3) := by decide +kernel
theorem dX12_couple_11 : decode cX12_couple 11 = .ok (.iconst 1, 1) := by decide +kernel
theorem dX12_couple_12 : decode cX12_couple 12 = .ok (.isub, 1) := by decide +kernel
theorem dX12_couple_13 : decode cX12_couple 13 = .ok (.invokestatic 189, 3) := by decide +kernel
theorem dX12_couple_16 : decode cX12_couple 16 = .ok (.ifCond .eq 12, 3) := by decide +kernel
theorem dX12_couple_19 : decode cX12_couple 19 = .ok (.aload_n 0, 1) := by decide +kernel
theorem dX12_couple_20 : decode cX12_couple 20 = .ok (.getfield 69, 3) := by decide +kernel
theorem dX12_couple_23 : decode cX12_couple 23 = .ok (.iload_n 1, 1) := by decide +kernel
theorem dX12_couple_24 : decode cX12_couple 24 = .ok (.iaload, 1) := by decide +kernel
theorem dX12_couple_25 : decode cX12_couple 25 = .ok (.goto 4, 3) := by decide +kernel
theorem dX12_couple_28 : decode cX12_couple 28 = .ok (.iconst (-1), 1) := by decide +kernel
theorem dX12_couple_29 : decode cX12_couple 29 = .ok (.ireturn, 1) := by decide +kernel
theorem dX12_wagesOf_0 : decode cX12_wagesOf 0 = .ok (.iconst 0, 1) := by decide +kernel
theorem dX12_wagesOf_1 : decode cX12_wagesOf 1 = .ok (.istore_n 2, 1) := by decide +kernel
theorem dX12_wagesOf_2 : decode cX12_wagesOf 2 = .ok (.iconst 0, 1) := by decide +kernel
theorem dX12_wagesOf_3 : decode cX12_wagesOf 3 = .ok (.istore_n 3, 1) := by decide +kernel
theorem dX12_wagesOf_4 : decode cX12_wagesOf 4 = .ok (.iload_n 3, 1) := by decide +kernel
theorem dX12_wagesOf_5 : decode cX12_wagesOf 5 = .ok (.aload_n 0, 1) := by decide +kernel
theorem dX12_wagesOf_6 : decode cX12_wagesOf 6 = .ok (.getfield 33, 3) := by decide +kernel
theorem dX12_wagesOf_9 : decode cX12_wagesOf 9 = .ok (.iconst 1, 1) := by decide +kernel
theorem dX12_wagesOf_10 : decode cX12_wagesOf 10 = .ok (.iaload, 1) := by decide +kernel
theorem dX12_wagesOf_11 : decode cX12_wagesOf 11 = .ok (.if_icmp .ge 32, 3) := by decide +kernel
theorem dX12_wagesOf_14 : decode cX12_wagesOf 14 = .ok (.iload_n 2, 1) := by decide +kernel
theorem dX12_wagesOf_15 : decode cX12_wagesOf 15 = .ok (.iload_n 1, 1) := by decide +kernel
theorem dX12_wagesOf_16 : decode cX12_wagesOf 16 = .ok (.iload_n 3, 1) := by decide +kernel
theorem dX12_wagesOf_17 : decode cX12_wagesOf 17 = .ok (.invokestatic 221, 3) := by decide +kernel
theorem dX12_wagesOf_20 : decode cX12_wagesOf 20 = .ok (.ifCond .eq 14, 3) := by decide +kernel
theorem dX12_wagesOf_23 : decode cX12_wagesOf 23 = .ok (.aload_n 0, 1) := by decide +kernel
theorem dX12_wagesOf_24 : decode cX12_wagesOf 24 = .ok (.getfield 33, 3) := by decide +kernel
theorem dX12_wagesOf_27 : decode cX12_wagesOf 27 = .ok (.iconst 5, 1) := by decide +kernel
theorem dX12_wagesOf_28 : decode cX12_wagesOf 28 = .ok (.iload_n 3, 1) := by decide +kernel
theorem dX12_wagesOf_29 : decode cX12_wagesOf 29 = .ok (.iadd, 1) := by decide +kernel
theorem dX12_wagesOf_30 : decode cX12_wagesOf 30 = .ok (.iaload, 1) := by decide +kernel
theorem dX12_wagesOf_31 : decode cX12_wagesOf 31 = .ok (.goto 4, 3) := by decide +kernel
theorem dX12_wagesOf_34 : decode cX12_wagesOf 34 = .ok (.iconst 0, 1) := by decide +kernel
theorem dX12_wagesOf_35 : decode cX12_wagesOf 35 = .ok (.iadd, 1) := by decide +kernel
theorem dX12_wagesOf_36 : decode cX12_wagesOf 36 = .ok (.istore_n 2, 1) := by decide +kernel
theorem dX12_wagesOf_37 : decode cX12_wagesOf 37 = .ok (.iinc 3 1, 3) := by decide +kernel
theorem dX12_wagesOf_40 : decode cX12_wagesOf 40 = .ok (.goto (-36), 3) := by decide +kernel
theorem dX12_wagesOf_43 : decode cX12_wagesOf 43 = .ok (.iload_n 2, 1) := by decide +kernel
theorem dX12_wagesOf_44 : decode cX12_wagesOf 44 = .ok (.ireturn, 1) := by decide +kernel
theorem dX12_doubters_0 : decode cX12_doubters 0 = .ok (.aload_n 0, 1) := by decide +kernel
theorem dX12_doubters_1 : decode cX12_doubters 1 = .ok (.iconst 0, 1) := by decide +kernel
theorem dX12_doubters_2 : decode cX12_doubters 2 = .ok (.putfield 1, 3) := by decide +kernel
theorem dX12_doubters_5 : decode cX12_doubters 5 = .ok (.aload_n 0, 1) := by decide +kernel
theorem dX12_doubters_6 : decode cX12_doubters 6 = .ok (.iload_n 1, 1) := by decide +kernel
theorem dX12_doubters_7 : decode cX12_doubters 7 = .ok (.invokevirtual 296, 3) := by decide +kernel
theorem dX12_doubters_10 : decode cX12_doubters 10 = .ok (.ifCond .eq 12, 3) := by decide +kernel
theorem dX12_doubters_13 : decode cX12_doubters 13 = .ok (.aload_n 0, 1) := by decide +kernel
theorem dX12_doubters_14 : decode cX12_doubters 14 = .ok (.getfield 33, 3) := by decide +kernel
theorem dX12_doubters_17 : decode cX12_doubters 17 = .ok (.iconst 0, 1) := by decide +kernel
theorem dX12_doubters_18 : decode cX12_doubters 18 = .ok (.iaload, 1) := by decide +kernel
theorem dX12_doubters_19 : decode cX12_doubters 19 = .ok (.ifCond .ne 5, 3) := by decide +kernel
theorem dX12_doubters_22 : decode cX12_doubters 22 = .ok (.iconst (-1), 1) := by decide +kernel
theorem dX12_doubters_23 : decode cX12_doubters 23 = .ok (.ireturn, 1) := by decide +kernel
theorem dX12_doubters_24 : decode cX12_doubters 24 = .ok (.iconst (-1), 1) := by decide +kernel
theorem dX12_doubters_25 : decode cX12_doubters 25 = .ok (.istore_n 2, 1) := by decide +kernel
theorem dX12_doubters_26 : decode cX12_doubters 26 = .ok (.iload_n 1, 1) := by decide +kernel
theorem dX12_doubters_27 : decode cX12_doubters 27 = .ok (.aload_n 0, 1) := by decide +kernel
theorem dX12_doubters_28 : decode cX12_doubters 28 = .ok (.getfield 33, 3) := by decide +kernel
theorem dX12_doubters_31 : decode cX12_doubters 31 = .ok (.sipush 131, 3) := by decide +kernel
theorem dX12_doubters_34 : decode cX12_doubters 34 = .ok (.iaload, 1) := by decide +kernel
theorem dX12_doubters_35 : decode cX12_doubters 35 = .ok (.iconst (-1), 1) := by decide +kernel
theorem dX12_doubters_36 : decode cX12_doubters 36 = .ok (.ixor, 1) := by decide +kernel
theorem dX12_doubters_37 : decode cX12_doubters 37 = .ok (.iand, 1) := by decide +kernel
theorem dX12_doubters_38 : decode cX12_doubters 38 = .ok (.istore_n 3, 1) := by decide +kernel
theorem dX12_doubters_39 : decode cX12_doubters 39 = .ok (.iconst 0, 1) := by decide +kernel
theorem dX12_doubters_40 : decode cX12_doubters 40 = .ok (.istore 4, 2) := by decide +kernel
theorem dX12_doubters_42 : decode cX12_doubters 42 = .ok (.iload 4, 2) := by decide +kernel
theorem dX12_doubters_44 : decode cX12_doubters 44 = .ok (.iload_n 3, 1) := by decide +kernel
theorem dX12_doubters_45 : decode cX12_doubters 45 = .ok (.if_icmp .gt 92, 3) := by decide +kernel
theorem dX12_doubters_48 : decode cX12_doubters 48 = .ok (.iload 4, 2) := by decide +kernel
theorem dX12_doubters_50 : decode cX12_doubters 50 = .ok (.iload_n 3, 1) := by decide +kernel
theorem dX12_doubters_51 : decode cX12_doubters 51 = .ok (.iconst (-1), 1) := by decide +kernel
theorem dX12_doubters_52 : decode cX12_doubters 52 = .ok (.ixor, 1) := by decide +kernel
theorem dX12_doubters_53 : decode cX12_doubters 53 = .ok (.iand, 1) := by decide +kernel
theorem dX12_doubters_54 : decode cX12_doubters 54 = .ok (.ifCond .ne 77, 3) := by decide +kernel
theorem dX12_doubters_57 : decode cX12_doubters 57 = .ok (.aload_n 0, 1) := by decide +kernel
theorem dX12_doubters_58 : decode cX12_doubters 58 = .ok (.aload_n 0, 1) := by decide +kernel
theorem dX12_doubters_59 : decode cX12_doubters 59 = .ok (.iload_n 3, 1) := by decide +kernel
theorem dX12_doubters_60 : decode cX12_doubters 60 = .ok (.iload 4, 2) := by decide +kernel
theorem dX12_doubters_62 : decode cX12_doubters 62 = .ok (.iconst (-1), 1) := by decide +kernel
theorem dX12_doubters_63 : decode cX12_doubters 63 = .ok (.ixor, 1) := by decide +kernel
theorem dX12_doubters_64 : decode cX12_doubters 64 = .ok (.iand, 1) := by decide +kernel
theorem dX12_doubters_65 : decode cX12_doubters 65 = .ok (.aload_n 0, 1) := by decide +kernel
theorem dX12_doubters_66 : decode cX12_doubters 66 = .ok (.getfield 33, 3) := by decide +kernel
theorem dX12_doubters_69 : decode cX12_doubters 69 = .ok (.bipush 126, 2) := by decide +kernel
theorem dX12_doubters_71 : decode cX12_doubters 71 = .ok (.iaload, 1) := by decide +kernel
theorem dX12_doubters_72 : decode cX12_doubters 72 = .ok (.invokevirtual 287, 3) := by decide +kernel
theorem dX12_doubters_75 : decode cX12_doubters 75 = .ok (.invokevirtual 290, 3) := by decide +kernel
theorem dX12_doubters_78 : decode cX12_doubters 78 = .ok (.ifCond .ne 6, 3) := by decide +kernel
theorem dX12_doubters_81 : decode cX12_doubters 81 = .ok (.goto 50, 3) := by decide +kernel
theorem dX12_doubters_84 : decode cX12_doubters 84 = .ok (.iload_n 2, 1) := by decide +kernel
theorem dX12_doubters_85 : decode cX12_doubters 85 = .ok (.ifCond .ge 7, 3) := by decide +kernel
theorem dX12_doubters_88 : decode cX12_doubters 88 = .ok (.iconst 1, 1) := by decide +kernel
theorem dX12_doubters_89 : decode cX12_doubters 89 = .ok (.goto 15, 3) := by decide +kernel
theorem dX12_doubters_92 : decode cX12_doubters 92 = .ok (.aload_n 0, 1) := by decide +kernel
theorem dX12_doubters_93 : decode cX12_doubters 93 = .ok (.iload_n 2, 1) := by decide +kernel
theorem dX12_doubters_94 : decode cX12_doubters 94 = .ok (.invokevirtual 363, 3) := by decide +kernel
theorem dX12_doubters_97 : decode cX12_doubters 97 = .ok (.aload_n 0, 1) := by decide +kernel
theorem dX12_doubters_98 : decode cX12_doubters 98 = .ok (.iload 4, 2) := by decide +kernel
theorem dX12_doubters_100 : decode cX12_doubters 100 = .ok (.invokevirtual 363, 3) := by decide +kernel
theorem dX12_doubters_103 : decode cX12_doubters 103 = .ok (.isub, 1) := by decide +kernel
theorem dX12_doubters_104 : decode cX12_doubters 104 = .ok (.istore 5, 2) := by decide +kernel
theorem dX12_doubters_106 : decode cX12_doubters 106 = .ok (.iload 5, 2) := by decide +kernel
theorem dX12_doubters_108 : decode cX12_doubters 108 = .ok (.ifCond .gt 20, 3) := by decide +kernel
theorem dX12_doubters_111 : decode cX12_doubters 111 = .ok (.iload 5, 2) := by decide +kernel
theorem dX12_doubters_113 : decode cX12_doubters 113 = .ok (.ifCond .ne 18, 3) := by decide +kernel
theorem dX12_doubters_116 : decode cX12_doubters 116 = .ok (.iload 4, 2) := by decide +kernel
theorem dX12_doubters_118 : decode cX12_doubters 118 = .ok (.invokestatic 284, 3) := by decide +kernel
theorem dX12_doubters_121 : decode cX12_doubters 121 = .ok (.iload_n 2, 1) := by decide +kernel
theorem dX12_doubters_122 : decode cX12_doubters 122 = .ok (.invokestatic 284, 3) := by decide +kernel
theorem dX12_doubters_125 : decode cX12_doubters 125 = .ok (.if_icmp .ge 6, 3) := by decide +kernel
theorem dX12_doubters_128 : decode cX12_doubters 128 = .ok (.iload 4, 2) := by decide +kernel
theorem dX12_doubters_130 : decode cX12_doubters 130 = .ok (.istore_n 2, 1) := by decide +kernel
theorem dX12_doubters_131 : decode cX12_doubters 131 = .ok (.iinc 4 1, 3) := by decide +kernel
theorem dX12_doubters_134 : decode cX12_doubters 134 = .ok (.goto (-92), 3) := by decide +kernel
theorem dX12_doubters_137 : decode cX12_doubters 137 = .ok (.iload_n 2, 1) := by decide +kernel
theorem dX12_doubters_138 : decode cX12_doubters 138 = .ok (.ireturn, 1) := by decide +kernel
theorem dX12_jokes_0 : decode cX12_jokes 0 = .ok (.aload_n 0, 1) := by decide +kernel
theorem dX12_jokes_1 : decode cX12_jokes 1 = .ok (.aload_n 0, 1) := by decide +kernel
theorem dX12_jokes_2 : decode cX12_jokes 2 = .ok (.iload_n 1, 1) := by decide +kernel
theorem dX12_jokes_3 : decode cX12_jokes 3 = .ok (.invokevirtual 296, 3) := by decide +kernel
theorem dX12_jokes_6 : decode cX12_jokes 6 = .ok (.ifCond .eq 21, 3) := by decide +kernel
theorem dX12_jokes_9 : decode cX12_jokes 9 = .ok (.aload_n 0, 1) := by decide +kernel
theorem dX12_jokes_10 : decode cX12_jokes 10 = .ok (.getfield 33, 3) := by decide +kernel
theorem dX12_jokes_13 : decode cX12_jokes 13 = .ok (.iconst 0, 1) := by decide +kernel
theorem dX12_jokes_14 : decode cX12_jokes 14 = .ok (.iaload, 1) := by decide +kernel
theorem dX12_jokes_15 : decode cX12_jokes 15 = .ok (.ifCond .eq 12, 3) := by decide +kernel
theorem dX12_jokes_18 : decode cX12_jokes 18 = .ok (.iload_n 2, 1) := by decide +kernel
theorem dX12_jokes_19 : decode cX12_jokes 19 = .ok (.iconst 0, 1) := by decide +kernel
theorem dX12_jokes_20 : decode cX12_jokes 20 = .ok (.iconst 1, 1) := by decide +kernel
theorem dX12_jokes_21 : decode cX12_jokes 21 = .ok (.invokestatic 189, 3) := by decide +kernel
theorem dX12_jokes_24 : decode cX12_jokes 24 = .ok (.ifCond .ne 7, 3) := by decide +kernel
theorem dX12_jokes_27 : decode cX12_jokes 27 = .ok (.iconst 1, 1) := by decide +kernel
theorem dX12_jokes_28 : decode cX12_jokes 28 = .ok (.goto 4, 3) := by decide +kernel
theorem dX12_jokes_31 : decode cX12_jokes 31 = .ok (.iconst 0, 1) := by decide +kernel
theorem dX12_jokes_32 : decode cX12_jokes 32 = .ok (.invokevirtual 255, 3) := by decide +kernel
theorem dX12_jokes_35 : decode cX12_jokes 35 = .ok (.ifCond .eq 5, 3) := by decide +kernel
theorem dX12_jokes_38 : decode cX12_jokes 38 = .ok (.iconst 0, 1) := by decide +kernel
theorem dX12_jokes_39 : decode cX12_jokes 39 = .ok (.ireturn, 1) := by decide +kernel
theorem dX12_jokes_40 : decode cX12_jokes 40 = .ok (.iconst 0, 1) := by decide +kernel
theorem dX12_jokes_41 : decode cX12_jokes 41 = .ok (.istore_n 3, 1) := by decide +kernel
theorem dX12_jokes_42 : decode cX12_jokes 42 = .ok (.iload_n 3, 1) := by decide +kernel
theorem dX12_jokes_43 : decode cX12_jokes 43 = .ok (.sipush 221, 3) := by decide +kernel
theorem dX12_jokes_46 : decode cX12_jokes 46 = .ok (.if_icmp .ge 26, 3) := by decide +kernel
theorem dX12_jokes_49 : decode cX12_jokes 49 = .ok (.aload_n 0, 1) := by decide +kernel
theorem dX12_jokes_50 : decode cX12_jokes 50 = .ok (.getfield 75, 3) := by decide +kernel
theorem dX12_jokes_53 : decode cX12_jokes 53 = .ok (.iload_n 3, 1) := by decide +kernel
theorem dX12_jokes_54 : decode cX12_jokes 54 = .ok (.iload_n 3, 1) := by decide +kernel
theorem dX12_jokes_55 : decode cX12_jokes 55 = .ok (.bipush 110, 2) := by decide +kernel
theorem dX12_jokes_57 : decode cX12_jokes 57 = .ok (.if_icmp .ne 7, 3) := by decide +kernel
theorem dX12_jokes_60 : decode cX12_jokes 60 = .ok (.iconst 1, 1) := by decide +kernel
theorem dX12_jokes_61 : decode cX12_jokes 61 = .ok (.goto 4, 3) := by decide +kernel
theorem dX12_jokes_64 : decode cX12_jokes 64 = .ok (.iconst 0, 1) := by decide +kernel
theorem dX12_jokes_65 : decode cX12_jokes 65 = .ok (.iastore, 1) := by decide +kernel
theorem dX12_jokes_66 : decode cX12_jokes 66 = .ok (.iinc 3 1, 3) := by decide +kernel
theorem dX12_jokes_69 : decode cX12_jokes 69 = .ok (.goto (-27), 3) := by decide +kernel
theorem dX12_jokes_72 : decode cX12_jokes 72 = .ok (.iconst 1, 1) := by decide +kernel
theorem dX12_jokes_73 : decode cX12_jokes 73 = .ok (.istore_n 3, 1) := by decide +kernel
theorem dX12_jokes_74 : decode cX12_jokes 74 = .ok (.iconst 0, 1) := by decide +kernel
theorem dX12_jokes_75 : decode cX12_jokes 75 = .ok (.istore 4, 2) := by decide +kernel
theorem dX12_jokes_77 : decode cX12_jokes 77 = .ok (.iload 4, 2) := by decide +kernel
theorem dX12_jokes_79 : decode cX12_jokes 79 = .ok (.aload_n 0, 1) := by decide +kernel
theorem dX12_jokes_80 : decode cX12_jokes 80 = .ok (.getfield 33, 3) := by decide +kernel
theorem dX12_jokes_83 : decode cX12_jokes 83 = .ok (.iconst 1, 1) := by decide +kernel
theorem dX12_jokes_84 : decode cX12_jokes 84 = .ok (.iaload, 1) := by decide +kernel
theorem dX12_jokes_85 : decode cX12_jokes 85 = .ok (.if_icmp .ge 203, 3) := by decide +kernel
theorem dX12_jokes_88 : decode cX12_jokes 88 = .ok (.iload_n 1, 1) := by decide +kernel
theorem dX12_jokes_89 : decode cX12_jokes 89 = .ok (.aload_n 0, 1) := by decide +kernel
theorem dX12_jokes_90 : decode cX12_jokes 90 = .ok (.getfield 33, 3) := by decide +kernel
theorem dX12_jokes_93 : decode cX12_jokes 93 = .ok (.sipush 131, 3) := by decide +kernel
theorem dX12_jokes_96 : decode cX12_jokes 96 = .ok (.iaload, 1) := by decide +kernel
theorem dX12_jokes_97 : decode cX12_jokes 97 = .ok (.iconst (-1), 1) := by decide +kernel
theorem dX12_jokes_98 : decode cX12_jokes 98 = .ok (.ixor, 1) := by decide +kernel
theorem dX12_jokes_99 : decode cX12_jokes 99 = .ok (.iand, 1) := by decide +kernel
theorem dX12_jokes_100 : decode cX12_jokes 100 = .ok (.iload 4, 2) := by decide +kernel
theorem dX12_jokes_102 : decode cX12_jokes 102 = .ok (.invokestatic 221, 3) := by decide +kernel
theorem dX12_jokes_105 : decode cX12_jokes 105 = .ok (.ifCond .ne 6, 3) := by decide +kernel
theorem dX12_jokes_108 : decode cX12_jokes 108 = .ok (.goto 174, 3) := by decide +kernel
theorem dX12_jokes_111 : decode cX12_jokes 111 = .ok (.aload_n 0, 1) := by decide +kernel
theorem dX12_jokes_112 : decode cX12_jokes 112 = .ok (.iload 4, 2) := by decide +kernel
theorem dX12_jokes_114 : decode cX12_jokes 114 = .ok (.aload_n 0, 1) := by decide +kernel
theorem dX12_jokes_115 : decode cX12_jokes 115 = .ok (.getfield 33, 3) := by decide +kernel
theorem dX12_jokes_118 : decode cX12_jokes 118 = .ok (.bipush 126, 2) := by decide +kernel
theorem dX12_jokes_120 : decode cX12_jokes 120 = .ok (.iaload, 1) := by decide +kernel
theorem dX12_jokes_121 : decode cX12_jokes 121 = .ok (.invokevirtual 269, 3) := by decide +kernel
theorem dX12_jokes_124 : decode cX12_jokes 124 = .ok (.istore 5, 2) := by decide +kernel
theorem dX12_jokes_126 : decode cX12_jokes 126 = .ok (.iconst 0, 1) := by decide +kernel
theorem dX12_jokes_127 : decode cX12_jokes 127 = .ok (.istore 6, 2) := by decide +kernel
theorem dX12_jokes_129 : decode cX12_jokes 129 = .ok (.iload 6, 2) := by decide +kernel
theorem dX12_jokes_131 : decode cX12_jokes 131 = .ok (.sipush 221, 3) := by decide +kernel
theorem dX12_jokes_134 : decode cX12_jokes 134 = .ok (.if_icmp .ge 17, 3) := by decide +kernel
theorem dX12_jokes_137 : decode cX12_jokes 137 = .ok (.aload_n 0, 1) := by decide +kernel
theorem dX12_jokes_138 : decode cX12_jokes 138 = .ok (.getfield 78, 3) := by decide +kernel
theorem dX12_jokes_141 : decode cX12_jokes 141 = .ok (.iload 6, 2) := by decide +kernel
theorem dX12_jokes_143 : decode cX12_jokes 143 = .ok (.iconst 0, 1) := by decide +kernel
theorem dX12_jokes_144 : decode cX12_jokes 144 = .ok (.iastore, 1) := by decide +kernel
theorem dX12_jokes_145 : decode cX12_jokes 145 = .ok (.iinc 6 1, 3) := by decide +kernel
theorem dX12_jokes_148 : decode cX12_jokes 148 = .ok (.goto (-19), 3) := by decide +kernel
theorem dX12_jokes_151 : decode cX12_jokes 151 = .ok (.iconst 0, 1) := by decide +kernel
theorem dX12_jokes_152 : decode cX12_jokes 152 = .ok (.istore 6, 2) := by decide +kernel
theorem dX12_jokes_154 : decode cX12_jokes 154 = .ok (.iload 6, 2) := by decide +kernel
theorem dX12_jokes_156 : decode cX12_jokes 156 = .ok (.sipush 221, 3) := by decide +kernel
theorem dX12_jokes_159 : decode cX12_jokes 159 = .ok (.if_icmp .ge 88, 3) := by decide +kernel
theorem dX12_jokes_162 : decode cX12_jokes 162 = .ok (.aload_n 0, 1) := by decide +kernel
theorem dX12_jokes_163 : decode cX12_jokes 163 = .ok (.getfield 75, 3) := by decide +kernel
theorem dX12_jokes_166 : decode cX12_jokes 166 = .ok (.iload 6, 2) := by decide +kernel
theorem dX12_jokes_168 : decode cX12_jokes 168 = .ok (.iaload, 1) := by decide +kernel
theorem dX12_jokes_169 : decode cX12_jokes 169 = .ok (.ifCond .ne 6, 3) := by decide +kernel
theorem dX12_jokes_172 : decode cX12_jokes 172 = .ok (.goto 69, 3) := by decide +kernel
theorem dX12_jokes_175 : decode cX12_jokes 175 = .ok (.aload_n 0, 1) := by decide +kernel
theorem dX12_jokes_176 : decode cX12_jokes 176 = .ok (.getfield 78, 3) := by decide +kernel
theorem dX12_jokes_179 : decode cX12_jokes 179 = .ok (.iload 6, 2) := by decide +kernel
theorem dX12_jokes_181 : decode cX12_jokes 181 = .ok (.iload 5, 2) := by decide +kernel
theorem dX12_jokes_183 : decode cX12_jokes 183 = .ok (.iadd, 1) := by decide +kernel
theorem dX12_jokes_184 : decode cX12_jokes 184 = .ok (.iconst 1, 1) := by decide +kernel
theorem dX12_jokes_185 : decode cX12_jokes 185 = .ok (.isub, 1) := by decide +kernel
theorem dX12_jokes_186 : decode cX12_jokes 186 = .ok (.dup2, 1) := by decide +kernel
theorem dX12_jokes_187 : decode cX12_jokes 187 = .ok (.iaload, 1) := by decide +kernel
theorem dX12_jokes_188 : decode cX12_jokes 188 = .ok (.aload_n 0, 1) := by decide +kernel
theorem dX12_jokes_189 : decode cX12_jokes 189 = .ok (.getfield 75, 3) := by decide +kernel
theorem dX12_jokes_192 : decode cX12_jokes 192 = .ok (.iload 6, 2) := by decide +kernel
theorem dX12_jokes_194 : decode cX12_jokes 194 = .ok (.iaload, 1) := by decide +kernel
theorem dX12_jokes_195 : decode cX12_jokes 195 = .ok (.iadd, 1) := by decide +kernel
theorem dX12_jokes_196 : decode cX12_jokes 196 = .ok (.iastore, 1) := by decide +kernel
theorem dX12_jokes_197 : decode cX12_jokes 197 = .ok (.aload_n 0, 1) := by decide +kernel
theorem dX12_jokes_198 : decode cX12_jokes 198 = .ok (.getfield 78, 3) := by decide +kernel
theorem dX12_jokes_201 : decode cX12_jokes 201 = .ok (.iload 6, 2) := by decide +kernel
theorem dX12_jokes_203 : decode cX12_jokes 203 = .ok (.iload 5, 2) := by decide +kernel
theorem dX12_jokes_205 : decode cX12_jokes 205 = .ok (.iadd, 1) := by decide +kernel
theorem dX12_jokes_206 : decode cX12_jokes 206 = .ok (.dup2, 1) := by decide +kernel
theorem dX12_jokes_207 : decode cX12_jokes 207 = .ok (.iaload, 1) := by decide +kernel
theorem dX12_jokes_208 : decode cX12_jokes 208 = .ok (.iconst 2, 1) := by decide +kernel
theorem dX12_jokes_209 : decode cX12_jokes 209 = .ok (.aload_n 0, 1) := by decide +kernel
theorem dX12_jokes_210 : decode cX12_jokes 210 = .ok (.getfield 75, 3) := by decide +kernel
theorem dX12_jokes_213 : decode cX12_jokes 213 = .ok (.iload 6, 2) := by decide +kernel
theorem dX12_jokes_215 : decode cX12_jokes 215 = .ok (.iaload, 1) := by decide +kernel
theorem dX12_jokes_216 : decode cX12_jokes 216 = .ok (.imul, 1) := by decide +kernel
theorem dX12_jokes_217 : decode cX12_jokes 217 = .ok (.iadd, 1) := by decide +kernel
theorem dX12_jokes_218 : decode cX12_jokes 218 = .ok (.iastore, 1) := by decide +kernel
theorem dX12_jokes_219 : decode cX12_jokes 219 = .ok (.aload_n 0, 1) := by decide +kernel
theorem dX12_jokes_220 : decode cX12_jokes 220 = .ok (.getfield 78, 3) := by decide +kernel
theorem dX12_jokes_223 : decode cX12_jokes 223 = .ok (.iload 6, 2) := by decide +kernel
theorem dX12_jokes_225 : decode cX12_jokes 225 = .ok (.iload 5, 2) := by decide +kernel
theorem dX12_jokes_227 : decode cX12_jokes 227 = .ok (.iadd, 1) := by decide +kernel
theorem dX12_jokes_228 : decode cX12_jokes 228 = .ok (.iconst 1, 1) := by decide +kernel
theorem dX12_jokes_229 : decode cX12_jokes 229 = .ok (.iadd, 1) := by decide +kernel
theorem dX12_jokes_230 : decode cX12_jokes 230 = .ok (.dup2, 1) := by decide +kernel
theorem dX12_jokes_231 : decode cX12_jokes 231 = .ok (.iaload, 1) := by decide +kernel
theorem dX12_jokes_232 : decode cX12_jokes 232 = .ok (.aload_n 0, 1) := by decide +kernel
theorem dX12_jokes_233 : decode cX12_jokes 233 = .ok (.getfield 75, 3) := by decide +kernel
theorem dX12_jokes_236 : decode cX12_jokes 236 = .ok (.iload 6, 2) := by decide +kernel
theorem dX12_jokes_238 : decode cX12_jokes 238 = .ok (.iaload, 1) := by decide +kernel
theorem dX12_jokes_239 : decode cX12_jokes 239 = .ok (.iadd, 1) := by decide +kernel
theorem dX12_jokes_240 : decode cX12_jokes 240 = .ok (.iastore, 1) := by decide +kernel
theorem dX12_jokes_241 : decode cX12_jokes 241 = .ok (.iinc 6 1, 3) := by decide +kernel
theorem dX12_jokes_244 : decode cX12_jokes 244 = .ok (.goto (-90), 3) := by decide +kernel
theorem dX12_jokes_247 : decode cX12_jokes 247 = .ok (.iconst 0, 1) := by decide +kernel
theorem dX12_jokes_248 : decode cX12_jokes 248 = .ok (.istore 6, 2) := by decide +kernel
theorem dX12_jokes_250 : decode cX12_jokes 250 = .ok (.iload 6, 2) := by decide +kernel
theorem dX12_jokes_252 : decode cX12_jokes 252 = .ok (.sipush 221, 3) := by decide +kernel
theorem dX12_jokes_255 : decode cX12_jokes 255 = .ok (.if_icmp .ge 23, 3) := by decide +kernel
theorem dX12_jokes_258 : decode cX12_jokes 258 = .ok (.aload_n 0, 1) := by decide +kernel
theorem dX12_jokes_259 : decode cX12_jokes 259 = .ok (.getfield 75, 3) := by decide +kernel
theorem dX12_jokes_262 : decode cX12_jokes 262 = .ok (.iload 6, 2) := by decide +kernel
theorem dX12_jokes_264 : decode cX12_jokes 264 = .ok (.aload_n 0, 1) := by decide +kernel
theorem dX12_jokes_265 : decode cX12_jokes 265 = .ok (.getfield 78, 3) := by decide +kernel
theorem dX12_jokes_268 : decode cX12_jokes 268 = .ok (.iload 6, 2) := by decide +kernel
theorem dX12_jokes_270 : decode cX12_jokes 270 = .ok (.iaload, 1) := by decide +kernel
theorem dX12_jokes_271 : decode cX12_jokes 271 = .ok (.iastore, 1) := by decide +kernel
theorem dX12_jokes_272 : decode cX12_jokes 272 = .ok (.iinc 6 1, 3) := by decide +kernel
theorem dX12_jokes_275 : decode cX12_jokes 275 = .ok (.goto (-25), 3) := by decide +kernel
theorem dX12_jokes_278 : decode cX12_jokes 278 = .ok (.iload_n 3, 1) := by decide +kernel
theorem dX12_jokes_279 : decode cX12_jokes 279 = .ok (.iconst 4, 1) := by decide +kernel
theorem dX12_jokes_280 : decode cX12_jokes 280 = .ok (.imul, 1) := by decide +kernel
theorem dX12_jokes_281 : decode cX12_jokes 281 = .ok (.istore_n 3, 1) := by decide +kernel
theorem dX12_jokes_282 : decode cX12_jokes 282 = .ok (.iinc 4 1, 3) := by decide +kernel
theorem dX12_jokes_285 : decode cX12_jokes 285 = .ok (.goto (-208), 3) := by decide +kernel
theorem dX12_jokes_288 : decode cX12_jokes 288 = .ok (.iconst 0, 1) := by decide +kernel
theorem dX12_jokes_289 : decode cX12_jokes 289 = .ok (.istore 4, 2) := by decide +kernel
theorem dX12_jokes_291 : decode cX12_jokes 291 = .ok (.iconst 0, 1) := by decide +kernel
theorem dX12_jokes_292 : decode cX12_jokes 292 = .ok (.istore 5, 2) := by decide +kernel
theorem dX12_jokes_294 : decode cX12_jokes 294 = .ok (.iload 5, 2) := by decide +kernel
theorem dX12_jokes_296 : decode cX12_jokes 296 = .ok (.sipush 221, 3) := by decide +kernel
theorem dX12_jokes_299 : decode cX12_jokes 299 = .ok (.if_icmp .ge 37, 3) := by decide +kernel
theorem dX12_jokes_302 : decode cX12_jokes 302 = .ok (.iload 4, 2) := by decide +kernel
theorem dX12_jokes_304 : decode cX12_jokes 304 = .ok (.aload_n 0, 1) := by decide +kernel
theorem dX12_jokes_305 : decode cX12_jokes 305 = .ok (.iload 5, 2) := by decide +kernel
theorem dX12_jokes_307 : decode cX12_jokes 307 = .ok (.bipush 110, 2) := by decide +kernel
theorem dX12_jokes_309 : decode cX12_jokes 309 = .ok (.isub, 1) := by decide +kernel
theorem dX12_jokes_310 : decode cX12_jokes 310 = .ok (.invokevirtual 290, 3) := by decide +kernel
theorem dX12_jokes_313 : decode cX12_jokes 313 = .ok (.ifCond .eq 13, 3) := by decide +kernel
theorem dX12_jokes_316 : decode cX12_jokes 316 = .ok (.aload_n 0, 1) := by decide +kernel
theorem dX12_jokes_317 : decode cX12_jokes 317 = .ok (.getfield 75, 3) := by decide +kernel
theorem dX12_jokes_320 : decode cX12_jokes 320 = .ok (.iload 5, 2) := by decide +kernel
theorem dX12_jokes_322 : decode cX12_jokes 322 = .ok (.iaload, 1) := by decide +kernel
theorem dX12_jokes_323 : decode cX12_jokes 323 = .ok (.goto 4, 3) := by decide +kernel
theorem dX12_jokes_326 : decode cX12_jokes 326 = .ok (.iconst 0, 1) := by decide +kernel
theorem dX12_jokes_327 : decode cX12_jokes 327 = .ok (.iadd, 1) := by decide +kernel
theorem dX12_jokes_328 : decode cX12_jokes 328 = .ok (.istore 4, 2) := by decide +kernel
theorem dX12_jokes_330 : decode cX12_jokes 330 = .ok (.iinc 5 1, 3) := by decide +kernel
theorem dX12_jokes_333 : decode cX12_jokes 333 = .ok (.goto (-39), 3) := by decide +kernel
theorem dX12_jokes_336 : decode cX12_jokes 336 = .ok (.iload 4, 2) := by decide +kernel
theorem dX12_jokes_338 : decode cX12_jokes 338 = .ok (.iload_n 3, 1) := by decide +kernel
theorem dX12_jokes_339 : decode cX12_jokes 339 = .ok (.iload_n 2, 1) := by decide +kernel
theorem dX12_jokes_340 : decode cX12_jokes 340 = .ok (.invokestatic 366, 3) := by decide +kernel
theorem dX12_jokes_343 : decode cX12_jokes 343 = .ok (.ireturn, 1) := by decide +kernel
theorem dX12_foes_0 : decode cX12_foes 0 = .ok (.aload_n 0, 1) := by decide +kernel
theorem dX12_foes_1 : decode cX12_foes 1 = .ok (.iconst 0, 1) := by decide +kernel
theorem dX12_foes_2 : decode cX12_foes 2 = .ok (.putfield 1, 3) := by decide +kernel
theorem dX12_foes_5 : decode cX12_foes 5 = .ok (.iload_n 1, 1) := by decide +kernel
theorem dX12_foes_6 : decode cX12_foes 6 = .ok (.iconst (-1), 1) := by decide +kernel
theorem dX12_foes_7 : decode cX12_foes 7 = .ok (.if_icmp .ge 5, 3) := by decide +kernel
theorem dX12_foes_10 : decode cX12_foes 10 = .ok (.iconst (-1), 1) := by decide +kernel
theorem dX12_foes_11 : decode cX12_foes 11 = .ok (.ireturn, 1) := by decide +kernel
theorem dX12_foes_12 : decode cX12_foes 12 = .ok (.iconst 0, 1) := by decide +kernel
theorem dX12_foes_13 : decode cX12_foes 13 = .ok (.istore_n 2, 1) := by decide +kernel
theorem dX12_foes_14 : decode cX12_foes 14 = .ok (.iconst 0, 1) := by decide +kernel
theorem dX12_foes_15 : decode cX12_foes 15 = .ok (.istore_n 3, 1) := by decide +kernel
theorem dX12_foes_16 : decode cX12_foes 16 = .ok (.iload_n 3, 1) := by decide +kernel
theorem dX12_foes_17 : decode cX12_foes 17 = .ok (.aload_n 0, 1) := by decide +kernel
theorem dX12_foes_18 : decode cX12_foes 18 = .ok (.getfield 33, 3) := by decide +kernel
theorem dX12_foes_21 : decode cX12_foes 21 = .ok (.iconst 1, 1) := by decide +kernel
theorem dX12_foes_22 : decode cX12_foes 22 = .ok (.iaload, 1) := by decide +kernel
theorem dX12_foes_23 : decode cX12_foes 23 = .ok (.if_icmp .ge 60, 3) := by decide +kernel
theorem dX12_foes_26 : decode cX12_foes 26 = .ok (.iload_n 3, 1) := by decide +kernel
theorem dX12_foes_27 : decode cX12_foes 27 = .ok (.iconst 1, 1) := by decide +kernel
theorem dX12_foes_28 : decode cX12_foes 28 = .ok (.iadd, 1) := by decide +kernel
theorem dX12_foes_29 : decode cX12_foes 29 = .ok (.istore 4, 2) := by decide +kernel
theorem dX12_foes_31 : decode cX12_foes 31 = .ok (.iload 4, 2) := by decide +kernel
theorem dX12_foes_33 : decode cX12_foes 33 = .ok (.aload_n 0, 1) := by decide +kernel
theorem dX12_foes_34 : decode cX12_foes 34 = .ok (.getfield 33, 3) := by decide +kernel
theorem dX12_foes_37 : decode cX12_foes 37 = .ok (.iconst 1, 1) := by decide +kernel
theorem dX12_foes_38 : decode cX12_foes 38 = .ok (.iaload, 1) := by decide +kernel
theorem dX12_foes_39 : decode cX12_foes 39 = .ok (.if_icmp .ge 38, 3) := by decide +kernel
theorem dX12_foes_42 : decode cX12_foes 42 = .ok (.aload_n 0, 1) := by decide +kernel
theorem dX12_foes_43 : decode cX12_foes 43 = .ok (.iload_n 3, 1) := by decide +kernel
theorem dX12_foes_44 : decode cX12_foes 44 = .ok (.iload 4, 2) := by decide +kernel
theorem dX12_foes_46 : decode cX12_foes 46 = .ok (.invokevirtual 278, 3) := by decide +kernel
theorem dX12_foes_49 : decode cX12_foes 49 = .ok (.ifCond .ne 6, 3) := by decide +kernel
theorem dX12_foes_52 : decode cX12_foes 52 = .ok (.goto 19, 3) := by decide +kernel
theorem dX12_foes_55 : decode cX12_foes 55 = .ok (.iload_n 2, 1) := by decide +kernel
theorem dX12_foes_56 : decode cX12_foes 56 = .ok (.iload_n 1, 1) := by decide +kernel
theorem dX12_foes_57 : decode cX12_foes 57 = .ok (.if_icmp .ne 11, 3) := by decide +kernel
theorem dX12_foes_60 : decode cX12_foes 60 = .ok (.bipush 10, 2) := by decide +kernel
theorem dX12_foes_62 : decode cX12_foes 62 = .ok (.iload_n 3, 1) := by decide +kernel
theorem dX12_foes_63 : decode cX12_foes 63 = .ok (.imul, 1) := by decide +kernel
theorem dX12_foes_64 : decode cX12_foes 64 = .ok (.iload 4, 2) := by decide +kernel
theorem dX12_foes_66 : decode cX12_foes 66 = .ok (.iadd, 1) := by decide +kernel
theorem dX12_foes_67 : decode cX12_foes 67 = .ok (.ireturn, 1) := by decide +kernel
theorem dX12_foes_68 : decode cX12_foes 68 = .ok (.iinc 2 1, 3) := by decide +kernel
theorem dX12_foes_71 : decode cX12_foes 71 = .ok (.iinc 4 1, 3) := by decide +kernel
theorem dX12_foes_74 : decode cX12_foes 74 = .ok (.goto (-43), 3) := by decide +kernel
theorem dX12_foes_77 : decode cX12_foes 77 = .ok (.iinc 3 1, 3) := by decide +kernel
theorem dX12_foes_80 : decode cX12_foes 80 = .ok (.goto (-64), 3) := by decide +kernel
theorem dX12_foes_83 : decode cX12_foes 83 = .ok (.iload_n 1, 1) := by decide +kernel
theorem dX12_foes_84 : decode cX12_foes 84 = .ok (.iconst (-1), 1) := by decide +kernel
theorem dX12_foes_85 : decode cX12_foes 85 = .ok (.if_icmp .ne 7, 3) := by decide +kernel
theorem dX12_foes_88 : decode cX12_foes 88 = .ok (.iload_n 2, 1) := by decide +kernel
theorem dX12_foes_89 : decode cX12_foes 89 = .ok (.goto 4, 3) := by decide +kernel
theorem dX12_foes_92 : decode cX12_foes 92 = .ok (.iconst (-1), 1) := by decide +kernel
theorem dX12_foes_93 : decode cX12_foes 93 = .ok (.ireturn, 1) := by decide +kernel
theorem dX12_draw_0 : decode cX12_draw 0 = .ok (.aload_n 0, 1) := by decide +kernel
theorem dX12_draw_1 : decode cX12_draw 1 = .ok (.aload_n 0, 1) := by decide +kernel
theorem dX12_draw_2 : decode cX12_draw 2 = .ok (.getfield 369, 3) := by decide +kernel
theorem dX12_draw_5 : decode cX12_draw 5 = .ok (.ldc_w 372, 3) := by decide +kernel
theorem dX12_draw_8 : decode cX12_draw 8 = .ok (.imul, 1) := by decide +kernel
theorem dX12_draw_9 : decode cX12_draw 9 = .ok (.sipush 12345, 3) := by decide +kernel
theorem dX12_draw_12 : decode cX12_draw 12 = .ok (.iadd, 1) := by decide +kernel
theorem dX12_draw_13 : decode cX12_draw 13 = .ok (.putfield 369, 3) := by decide +kernel
theorem dX12_draw_16 : decode cX12_draw 16 = .ok (.aload_n 0, 1) := by decide +kernel
theorem dX12_draw_17 : decode cX12_draw 17 = .ok (.getfield 369, 3) := by decide +kernel
theorem dX12_draw_20 : decode cX12_draw 20 = .ok (.bipush 8, 2) := by decide +kernel
theorem dX12_draw_22 : decode cX12_draw 22 = .ok (.iushr, 1) := by decide +kernel
theorem dX12_draw_23 : decode cX12_draw 23 = .ok (.iload_n 1, 1) := by decide +kernel
theorem dX12_draw_24 : decode cX12_draw 24 = .ok (.irem, 1) := by decide +kernel
theorem dX12_draw_25 : decode cX12_draw 25 = .ok (.ireturn, 1) := by decide +kernel
