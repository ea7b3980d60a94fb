theorem dX4_pairUp_0 : decode cX4_pairUp 0 = .ok (.aload_n 0, 1) := by decide +kernel
theorem dX4_pairUp_1 : decode cX4_pairUp 1 = .ok (.aload_n 1, 1) := by decide +kernel
theorem dX4_pairUp_2 : decode cX4_pairUp 2 = .ok (.aload_n 1, 1) := by decide +kernel
theorem dX4_pairUp_3 : decode cX4_pairUp 3 = .ok (.getfield 69, 3) := by decide +kernel
theorem dX4_pairUp_6 : decode cX4_pairUp 6 = .ok (.getfield 111, 3) := by decide +kernel
theorem dX4_pairUp_9 : decode cX4_pairUp 9 = .ok (.invokevirtual 78, 3) := by decide +kernel
theorem dX4_pairUp_12 : decode cX4_pairUp 12 = .ok (.aload_n 0, 1) := by decide +kernel
theorem dX4_pairUp_13 : decode cX4_pairUp 13 = .ok (.getfield 22, 3) := by decide +kernel
theorem dX4_pairUp_16 : decode cX4_pairUp 16 = .ok (.astore_n 3, 1) := by decide +kernel
theorem dX4_pairUp_17 : decode cX4_pairUp 17 = .ok (.aload_n 0, 1) := by decide +kernel
theorem dX4_pairUp_18 : decode cX4_pairUp 18 = .ok (.aload_n 1, 1) := by decide +kernel
theorem dX4_pairUp_19 : decode cX4_pairUp 19 = .ok (.aload_n 3, 1) := by decide +kernel
theorem dX4_pairUp_20 : decode cX4_pairUp 20 = .ok (.invokevirtual 114, 3) := by decide +kernel
theorem dX4_pairUp_23 : decode cX4_pairUp 23 = .ok (.aload_n 1, 1) := by decide +kernel
theorem dX4_pairUp_24 : decode cX4_pairUp 24 = .ok (.getfield 28, 3) := by decide +kernel
theorem dX4_pairUp_27 : decode cX4_pairUp 27 = .ok (.invokevirtual 65, 3) := by decide +kernel
theorem dX4_pairUp_30 : decode cX4_pairUp 30 = .ok (.istore 4, 2) := by decide +kernel
theorem dX4_pairUp_32 : decode cX4_pairUp 32 = .ok (.aload_n 3, 1) := by decide +kernel
theorem dX4_pairUp_33 : decode cX4_pairUp 33 = .ok (.iload 4, 2) := by decide +kernel
theorem dX4_pairUp_35 : decode cX4_pairUp 35 = .ok (.iaload, 1) := by decide +kernel
theorem dX4_pairUp_36 : decode cX4_pairUp 36 = .ok (.istore 5, 2) := by decide +kernel
theorem dX4_pairUp_38 : decode cX4_pairUp 38 = .ok (.iconst 0, 1) := by decide +kernel
theorem dX4_pairUp_39 : decode cX4_pairUp 39 = .ok (.istore 6, 2) := by decide +kernel
theorem dX4_pairUp_41 : decode cX4_pairUp 41 = .ok (.iload 6, 2) := by decide +kernel
theorem dX4_pairUp_43 : decode cX4_pairUp 43 = .ok (.aload_n 1, 1) := by decide +kernel
theorem dX4_pairUp_44 : decode cX4_pairUp 44 = .ok (.getfield 28, 3) := by decide +kernel
theorem dX4_pairUp_47 : decode cX4_pairUp 47 = .ok (.getfield 34, 3) := by decide +kernel
theorem dX4_pairUp_50 : decode cX4_pairUp 50 = .ok (.if_icmp .ge 68, 3) := by decide +kernel
theorem dX4_pairUp_53 : decode cX4_pairUp 53 = .ok (.iload 4, 2) := by decide +kernel
theorem dX4_pairUp_55 : decode cX4_pairUp 55 = .ok (.iload 6, 2) := by decide +kernel
theorem dX4_pairUp_57 : decode cX4_pairUp 57 = .ok (.invokestatic 118, 3) := by decide +kernel
theorem dX4_pairUp_60 : decode cX4_pairUp 60 = .ok (.iconst 1, 1) := by decide +kernel
theorem dX4_pairUp_61 : decode cX4_pairUp 61 = .ok (.if_icmp .ne 51, 3) := by decide +kernel
theorem dX4_pairUp_64 : decode cX4_pairUp 64 = .ok (.iload 4, 2) := by decide +kernel
theorem dX4_pairUp_66 : decode cX4_pairUp 66 = .ok (.iconst 1, 1) := by decide +kernel
theorem dX4_pairUp_67 : decode cX4_pairUp 67 = .ok (.iload 6, 2) := by decide +kernel
theorem dX4_pairUp_69 : decode cX4_pairUp 69 = .ok (.ishl, 1) := by decide +kernel
theorem dX4_pairUp_70 : decode cX4_pairUp 70 = .ok (.ixor, 1) := by decide +kernel
theorem dX4_pairUp_71 : decode cX4_pairUp 71 = .ok (.istore 4, 2) := by decide +kernel
theorem dX4_pairUp_73 : decode cX4_pairUp 73 = .ok (.aload_n 0, 1) := by decide +kernel
theorem dX4_pairUp_74 : decode cX4_pairUp 74 = .ok (.aload_n 1, 1) := by decide +kernel
theorem dX4_pairUp_75 : decode cX4_pairUp 75 = .ok (.iload 6, 2) := by decide +kernel
theorem dX4_pairUp_77 : decode cX4_pairUp 77 = .ok (.iload 4, 2) := by decide +kernel
theorem dX4_pairUp_79 : decode cX4_pairUp 79 = .ok (.aload_n 3, 1) := by decide +kernel
theorem dX4_pairUp_80 : decode cX4_pairUp 80 = .ok (.invokevirtual 121, 3) := by decide +kernel
theorem dX4_pairUp_83 : decode cX4_pairUp 83 = .ok (.istore 7, 2) := by decide +kernel
theorem dX4_pairUp_85 : decode cX4_pairUp 85 = .ok (.iload 7, 2) := by decide +kernel
theorem dX4_pairUp_87 : decode cX4_pairUp 87 = .ok (.iconst (-1), 1) := by decide +kernel
theorem dX4_pairUp_88 : decode cX4_pairUp 88 = .ok (.if_icmp .eq 24, 3) := by decide +kernel
theorem dX4_pairUp_91 : decode cX4_pairUp 91 = .ok (.iload 4, 2) := by decide +kernel
theorem dX4_pairUp_93 : decode cX4_pairUp 93 = .ok (.iconst 1, 1) := by decide +kernel
theorem dX4_pairUp_94 : decode cX4_pairUp 94 = .ok (.iload 7, 2) := by decide +kernel
theorem dX4_pairUp_96 : decode cX4_pairUp 96 = .ok (.ishl, 1) := by decide +kernel
theorem dX4_pairUp_97 : decode cX4_pairUp 97 = .ok (.ixor, 1) := by decide +kernel
theorem dX4_pairUp_98 : decode cX4_pairUp 98 = .ok (.istore 4, 2) := by decide +kernel
theorem dX4_pairUp_100 : decode cX4_pairUp 100 = .ok (.aload_n 2, 1) := by decide +kernel
theorem dX4_pairUp_101 : decode cX4_pairUp 101 = .ok (.iload 6, 2) := by decide +kernel
theorem dX4_pairUp_103 : decode cX4_pairUp 103 = .ok (.iload 7, 2) := by decide +kernel
theorem dX4_pairUp_105 : decode cX4_pairUp 105 = .ok (.iastore, 1) := by decide +kernel
theorem dX4_pairUp_106 : decode cX4_pairUp 106 = .ok (.aload_n 2, 1) := by decide +kernel
theorem dX4_pairUp_107 : decode cX4_pairUp 107 = .ok (.iload 7, 2) := by decide +kernel
theorem dX4_pairUp_109 : decode cX4_pairUp 109 = .ok (.iload 6, 2) := by decide +kernel
theorem dX4_pairUp_111 : decode cX4_pairUp 111 = .ok (.iastore, 1) := by decide +kernel
theorem dX4_pairUp_112 : decode cX4_pairUp 112 = .ok (.iinc 6 1, 3) := by decide +kernel
theorem dX4_pairUp_115 : decode cX4_pairUp 115 = .ok (.goto (-74), 3) := by decide +kernel
theorem dX4_pairUp_118 : decode cX4_pairUp 118 = .ok (.iload 5, 2) := by decide +kernel
theorem dX4_pairUp_120 : decode cX4_pairUp 120 = .ok (.ireturn, 1) := by decide +kernel
theorem dX4_countPairs_0 : decode cX4_countPairs 0 = .ok (.aload_n 2, 1) := by decide +kernel
theorem dX4_countPairs_1 : decode cX4_countPairs 1 = .ok (.iconst 0, 1) := by decide +kernel
theorem dX4_countPairs_2 : decode cX4_countPairs 2 = .ok (.iconst 0, 1) := by decide +kernel
theorem dX4_countPairs_3 : decode cX4_countPairs 3 = .ok (.iastore, 1) := by decide +kernel
theorem dX4_countPairs_4 : decode cX4_countPairs 4 = .ok (.iconst 0, 1) := by decide +kernel
theorem dX4_countPairs_5 : decode cX4_countPairs 5 = .ok (.istore_n 3, 1) := by decide +kernel
theorem dX4_countPairs_6 : decode cX4_countPairs 6 = .ok (.iload_n 3, 1) := by decide +kernel
theorem dX4_countPairs_7 : decode cX4_countPairs 7 = .ok (.aload_n 1, 1) := by decide +kernel
theorem dX4_countPairs_8 : decode cX4_countPairs 8 = .ok (.getfield 28, 3) := by decide +kernel
theorem dX4_countPairs_11 : decode cX4_countPairs 11 = .ok (.getfield 34, 3) := by decide +kernel
theorem dX4_countPairs_14 : decode cX4_countPairs 14 = .ok (.if_icmp .ge 100, 3) := by decide +kernel
theorem dX4_countPairs_17 : decode cX4_countPairs 17 = .ok (.iconst 1, 1) := by decide +kernel
theorem dX4_countPairs_18 : decode cX4_countPairs 18 = .ok (.iload_n 3, 1) := by decide +kernel
theorem dX4_countPairs_19 : decode cX4_countPairs 19 = .ok (.ishl, 1) := by decide +kernel
theorem dX4_countPairs_20 : decode cX4_countPairs 20 = .ok (.istore 4, 2) := by decide +kernel
theorem dX4_countPairs_22 : decode cX4_countPairs 22 = .ok (.iconst 0, 1) := by decide +kernel
theorem dX4_countPairs_23 : decode cX4_countPairs 23 = .ok (.istore 5, 2) := by decide +kernel
theorem dX4_countPairs_25 : decode cX4_countPairs 25 = .ok (.iload 5, 2) := by decide +kernel
theorem dX4_countPairs_27 : decode cX4_countPairs 27 = .ok (.iload 4, 2) := by decide +kernel
theorem dX4_countPairs_29 : decode cX4_countPairs 29 = .ok (.if_icmp .ge 79, 3) := by decide +kernel
theorem dX4_countPairs_32 : decode cX4_countPairs 32 = .ok (.aload_n 2, 1) := by decide +kernel
theorem dX4_countPairs_33 : decode cX4_countPairs 33 = .ok (.iload 5, 2) := by decide +kernel
theorem dX4_countPairs_35 : decode cX4_countPairs 35 = .ok (.iaload, 1) := by decide +kernel
theorem dX4_countPairs_36 : decode cX4_countPairs 36 = .ok (.istore 6, 2) := by decide +kernel
theorem dX4_countPairs_38 : decode cX4_countPairs 38 = .ok (.iconst 0, 1) := by decide +kernel
theorem dX4_countPairs_39 : decode cX4_countPairs 39 = .ok (.istore 7, 2) := by decide +kernel
theorem dX4_countPairs_41 : decode cX4_countPairs 41 = .ok (.iload 7, 2) := by decide +kernel
theorem dX4_countPairs_43 : decode cX4_countPairs 43 = .ok (.iload_n 3, 1) := by decide +kernel
theorem dX4_countPairs_44 : decode cX4_countPairs 44 = .ok (.if_icmp .ge 49, 3) := by decide +kernel
theorem dX4_countPairs_47 : decode cX4_countPairs 47 = .ok (.iload 5, 2) := by decide +kernel
theorem dX4_countPairs_49 : decode cX4_countPairs 49 = .ok (.iload 7, 2) := by decide +kernel
theorem dX4_countPairs_51 : decode cX4_countPairs 51 = .ok (.invokestatic 118, 3) := by decide +kernel
theorem dX4_countPairs_54 : decode cX4_countPairs 54 = .ok (.iconst 1, 1) := by decide +kernel
theorem dX4_countPairs_55 : decode cX4_countPairs 55 = .ok (.if_icmp .ne 32, 3) := by decide +kernel
theorem dX4_countPairs_58 : decode cX4_countPairs 58 = .ok (.aload_n 0, 1) := by decide +kernel
theorem dX4_countPairs_59 : decode cX4_countPairs 59 = .ok (.aload_n 1, 1) := by decide +kernel
theorem dX4_countPairs_60 : decode cX4_countPairs 60 = .ok (.iload 7, 2) := by decide +kernel
theorem dX4_countPairs_62 : decode cX4_countPairs 62 = .ok (.iload_n 3, 1) := by decide +kernel
theorem dX4_countPairs_63 : decode cX4_countPairs 63 = .ok (.invokevirtual 125, 3) := by decide +kernel
theorem dX4_countPairs_66 : decode cX4_countPairs 66 = .ok (.ifCond .eq 21, 3) := by decide +kernel
theorem dX4_countPairs_69 : decode cX4_countPairs 69 = .ok (.iload 6, 2) := by decide +kernel
theorem dX4_countPairs_71 : decode cX4_countPairs 71 = .ok (.iconst 1, 1) := by decide +kernel
theorem dX4_countPairs_72 : decode cX4_countPairs 72 = .ok (.aload_n 2, 1) := by decide +kernel
theorem dX4_countPairs_73 : decode cX4_countPairs 73 = .ok (.iload 5, 2) := by decide +kernel
theorem dX4_countPairs_75 : decode cX4_countPairs 75 = .ok (.iconst 1, 1) := by decide +kernel
theorem dX4_countPairs_76 : decode cX4_countPairs 76 = .ok (.iload 7, 2) := by decide +kernel
theorem dX4_countPairs_78 : decode cX4_countPairs 78 = .ok (.ishl, 1) := by decide +kernel
theorem dX4_countPairs_79 : decode cX4_countPairs 79 = .ok (.ixor, 1) := by decide +kernel
theorem dX4_countPairs_80 : decode cX4_countPairs 80 = .ok (.iaload, 1) := by decide +kernel
theorem dX4_countPairs_81 : decode cX4_countPairs 81 = .ok (.iadd, 1) := by decide +kernel
theorem dX4_countPairs_82 : decode cX4_countPairs 82 = .ok (.invokestatic 129, 3) := by decide +kernel
theorem dX4_countPairs_85 : decode cX4_countPairs 85 = .ok (.istore 6, 2) := by decide +kernel
theorem dX4_countPairs_87 : decode cX4_countPairs 87 = .ok (.iinc 7 1, 3) := by decide +kernel
theorem dX4_countPairs_90 : decode cX4_countPairs 90 = .ok (.goto (-49), 3) := by decide +kernel
theorem dX4_countPairs_93 : decode cX4_countPairs 93 = .ok (.aload_n 2, 1) := by decide +kernel
theorem dX4_countPairs_94 : decode cX4_countPairs 94 = .ok (.iload 4, 2) := by decide +kernel
theorem dX4_countPairs_96 : decode cX4_countPairs 96 = .ok (.iload 5, 2) := by decide +kernel
theorem dX4_countPairs_98 : decode cX4_countPairs 98 = .ok (.ior, 1) := by decide +kernel
theorem dX4_countPairs_99 : decode cX4_countPairs 99 = .ok (.iload 6, 2) := by decide +kernel
theorem dX4_countPairs_101 : decode cX4_countPairs 101 = .ok (.iastore, 1) := by decide +kernel
theorem dX4_countPairs_102 : decode cX4_countPairs 102 = .ok (.iinc 5 1, 3) := by decide +kernel
theorem dX4_countPairs_105 : decode cX4_countPairs 105 = .ok (.goto (-80), 3) := by decide +kernel
theorem dX4_countPairs_108 : decode cX4_countPairs 108 = .ok (.iinc 3 1, 3) := by decide +kernel
theorem dX4_countPairs_111 : decode cX4_countPairs 111 = .ok (.goto (-105), 3) := by decide +kernel
theorem dX4_countPairs_114 : decode cX4_countPairs 114 = .ok (.return_, 1) := by decide +kernel
theorem dX4_firstMate_0 : decode cX4_firstMate 0 = .ok (.iload_n 2, 1) := by decide +kernel
theorem dX4_firstMate_1 : decode cX4_firstMate 1 = .ok (.iconst 1, 1) := by decide +kernel
theorem dX4_firstMate_2 : decode cX4_firstMate 2 = .ok (.iadd, 1) := by decide +kernel
theorem dX4_firstMate_3 : decode cX4_firstMate 3 = .ok (.istore 5, 2) := by decide +kernel
theorem dX4_firstMate_5 : decode cX4_firstMate 5 = .ok (.iload 5, 2) := by decide +kernel
theorem dX4_firstMate_7 : decode cX4_firstMate 7 = .ok (.aload_n 1, 1) := by decide +kernel
theorem dX4_firstMate_8 : decode cX4_firstMate 8 = .ok (.getfield 28, 3) := by decide +kernel
theorem dX4_firstMate_11 : decode cX4_firstMate 11 = .ok (.getfield 34, 3) := by decide +kernel
theorem dX4_firstMate_14 : decode cX4_firstMate 14 = .ok (.if_icmp .ge 55, 3) := by decide +kernel
theorem dX4_firstMate_17 : decode cX4_firstMate 17 = .ok (.iload_n 3, 1) := by decide +kernel
theorem dX4_firstMate_18 : decode cX4_firstMate 18 = .ok (.iload 5, 2) := by decide +kernel
theorem dX4_firstMate_20 : decode cX4_firstMate 20 = .ok (.invokestatic 118, 3) := by decide +kernel
theorem dX4_firstMate_23 : decode cX4_firstMate 23 = .ok (.iconst 1, 1) := by decide +kernel
theorem dX4_firstMate_24 : decode cX4_firstMate 24 = .ok (.if_icmp .ne 39, 3) := by decide +kernel
theorem dX4_firstMate_27 : decode cX4_firstMate 27 = .ok (.aload_n 0, 1) := by decide +kernel
theorem dX4_firstMate_28 : decode cX4_firstMate 28 = .ok (.aload_n 1, 1) := by decide +kernel
theorem dX4_firstMate_29 : decode cX4_firstMate 29 = .ok (.iload_n 2, 1) := by decide +kernel
theorem dX4_firstMate_30 : decode cX4_firstMate 30 = .ok (.iload 5, 2) := by decide +kernel
theorem dX4_firstMate_32 : decode cX4_firstMate 32 = .ok (.invokevirtual 125, 3) := by decide +kernel
theorem dX4_firstMate_35 : decode cX4_firstMate 35 = .ok (.ifCond .eq 28, 3) := by decide +kernel
theorem dX4_firstMate_38 : decode cX4_firstMate 38 = .ok (.iconst 1, 1) := by decide +kernel
theorem dX4_firstMate_39 : decode cX4_firstMate 39 = .ok (.aload 4, 2) := by decide +kernel
theorem dX4_firstMate_41 : decode cX4_firstMate 41 = .ok (.iload_n 3, 1) := by decide +kernel
theorem dX4_firstMate_42 : decode cX4_firstMate 42 = .ok (.iconst 1, 1) := by decide +kernel
theorem dX4_firstMate_43 : decode cX4_firstMate 43 = .ok (.iload 5, 2) := by decide +kernel
theorem dX4_firstMate_45 : decode cX4_firstMate 45 = .ok (.ishl, 1) := by decide +kernel
theorem dX4_firstMate_46 : decode cX4_firstMate 46 = .ok (.ixor, 1) := by decide +kernel
theorem dX4_firstMate_47 : decode cX4_firstMate 47 = .ok (.iaload, 1) := by decide +kernel
theorem dX4_firstMate_48 : decode cX4_firstMate 48 = .ok (.iadd, 1) := by decide +kernel
theorem dX4_firstMate_49 : decode cX4_firstMate 49 = .ok (.aload 4, 2) := by decide +kernel
theorem dX4_firstMate_51 : decode cX4_firstMate 51 = .ok (.iload_n 3, 1) := by decide +kernel
theorem dX4_firstMate_52 : decode cX4_firstMate 52 = .ok (.iconst 1, 1) := by decide +kernel
theorem dX4_firstMate_53 : decode cX4_firstMate 53 = .ok (.iload_n 2, 1) := by decide +kernel
theorem dX4_firstMate_54 : decode cX4_firstMate 54 = .ok (.ishl, 1) := by decide +kernel
theorem dX4_firstMate_55 : decode cX4_firstMate 55 = .ok (.ior, 1) := by decide +kernel
theorem dX4_firstMate_56 : decode cX4_firstMate 56 = .ok (.iaload, 1) := by decide +kernel
theorem dX4_firstMate_57 : decode cX4_firstMate 57 = .ok (.if_icmp .ne 6, 3) := by decide +kernel
theorem dX4_firstMate_60 : decode cX4_firstMate 60 = .ok (.iload 5, 2) := by decide +kernel
theorem dX4_firstMate_62 : decode cX4_firstMate 62 = .ok (.ireturn, 1) := by decide +kernel
theorem dX4_firstMate_63 : decode cX4_firstMate 63 = .ok (.iinc 5 1, 3) := by decide +kernel
theorem dX4_firstMate_66 : decode cX4_firstMate 66 = .ok (.goto (-61), 3) := by decide +kernel
theorem dX4_firstMate_69 : decode cX4_firstMate 69 = .ok (.iconst (-1), 1) := by decide +kernel
theorem dX4_firstMate_70 : decode cX4_firstMate 70 = .ok (.ireturn, 1) := by decide +kernel
theorem dX4_cheapestDoubters_0 : decode cX4_cheapestDoubters 0 = .ok (.aload_n 0, 1) := by decide +kernel
theorem dX4_cheapestDoubters_1 : decode cX4_cheapestDoubters 1 = .ok (.aload_n 1, 1) := by decide +kernel
theorem dX4_cheapestDoubters_2 : decode cX4_cheapestDoubters 2 = .ok (.aload_n 1, 1) := by decide +kernel
theorem dX4_cheapestDoubters_3 : decode cX4_cheapestDoubters 3 = .ok (.getfield 69, 3) := by decide +kernel
theorem dX4_cheapestDoubters_6 : decode cX4_cheapestDoubters 6 = .ok (.getfield 111, 3) := by decide +kernel
theorem dX4_cheapestDoubters_9 : decode cX4_cheapestDoubters 9 = .ok (.invokevirtual 78, 3) := by decide +kernel
theorem dX4_cheapestDoubters_12 : decode cX4_cheapestDoubters 12 = .ok (.iload_n 2, 1) := by decide +kernel
theorem dX4_cheapestDoubters_13 : decode cX4_cheapestDoubters 13 = .ok (.aload_n 1, 1) := by decide +kernel
theorem dX4_cheapestDoubters_14 : decode cX4_cheapestDoubters 14 = .ok (.getfield 69, 3) := by decide +kernel
theorem dX4_cheapestDoubters_17 : decode cX4_cheapestDoubters 17 = .ok (.getfield 134, 3) := by decide +kernel
theorem dX4_cheapestDoubters_20 : decode cX4_cheapestDoubters 20 = .ok (.iconst (-1), 1) := by decide +kernel
theorem dX4_cheapestDoubters_21 : decode cX4_cheapestDoubters 21 = .ok (.ixor, 1) := by decide +kernel
theorem dX4_cheapestDoubters_22 : decode cX4_cheapestDoubters 22 = .ok (.iand, 1) := by decide +kernel
theorem dX4_cheapestDoubters_23 : decode cX4_cheapestDoubters 23 = .ok (.istore_n 3, 1) := by decide +kernel
theorem dX4_cheapestDoubters_24 : decode cX4_cheapestDoubters 24 = .ok (.iload_n 3, 1) := by decide +kernel
theorem dX4_cheapestDoubters_25 : decode cX4_cheapestDoubters 25 = .ok (.istore 4, 2) := by decide +kernel
theorem dX4_cheapestDoubters_27 : decode cX4_cheapestDoubters 27 = .ok (.aload_n 1, 1) := by decide +kernel
theorem dX4_cheapestDoubters_28 : decode cX4_cheapestDoubters 28 = .ok (.iload_n 3, 1) := by decide +kernel
theorem dX4_cheapestDoubters_29 : decode cX4_cheapestDoubters 29 = .ok (.invokestatic 137, 3) := by decide +kernel
theorem dX4_cheapestDoubters_32 : decode cX4_cheapestDoubters 32 = .ok (.istore 5, 2) := by decide +kernel
theorem dX4_cheapestDoubters_34 : decode cX4_cheapestDoubters 34 = .ok (.iconst 0, 1) := by decide +kernel
theorem dX4_cheapestDoubters_35 : decode cX4_cheapestDoubters 35 = .ok (.istore 6, 2) := by decide +kernel
theorem dX4_cheapestDoubters_37 : decode cX4_cheapestDoubters 37 = .ok (.iload 6, 2) := by decide +kernel
theorem dX4_cheapestDoubters_39 : decode cX4_cheapestDoubters 39 = .ok (.iload_n 3, 1) := by decide +kernel
theorem dX4_cheapestDoubters_40 : decode cX4_cheapestDoubters 40 = .ok (.if_icmp .ge 59, 3) := by decide +kernel
theorem dX4_cheapestDoubters_43 : decode cX4_cheapestDoubters 43 = .ok (.iload 6, 2) := by decide +kernel
theorem dX4_cheapestDoubters_45 : decode cX4_cheapestDoubters 45 = .ok (.iload_n 3, 1) := by decide +kernel
theorem dX4_cheapestDoubters_46 : decode cX4_cheapestDoubters 46 = .ok (.iconst (-1), 1) := by decide +kernel
theorem dX4_cheapestDoubters_47 : decode cX4_cheapestDoubters 47 = .ok (.ixor, 1) := by decide +kernel
theorem dX4_cheapestDoubters_48 : decode cX4_cheapestDoubters 48 = .ok (.iand, 1) := by decide +kernel
theorem dX4_cheapestDoubters_49 : decode cX4_cheapestDoubters 49 = .ok (.ifCond .ne 44, 3) := by decide +kernel
theorem dX4_cheapestDoubters_52 : decode cX4_cheapestDoubters 52 = .ok (.aload_n 1, 1) := by decide +kernel
theorem dX4_cheapestDoubters_53 : decode cX4_cheapestDoubters 53 = .ok (.aload_n 0, 1) := by decide +kernel
theorem dX4_cheapestDoubters_54 : decode cX4_cheapestDoubters 54 = .ok (.getfield 9, 3) := by decide +kernel
theorem dX4_cheapestDoubters_57 : decode cX4_cheapestDoubters 57 = .ok (.iload_n 2, 1) := by decide +kernel
theorem dX4_cheapestDoubters_58 : decode cX4_cheapestDoubters 58 = .ok (.iload 6, 2) := by decide +kernel
theorem dX4_cheapestDoubters_60 : decode cX4_cheapestDoubters 60 = .ok (.iconst (-1), 1) := by decide +kernel
theorem dX4_cheapestDoubters_61 : decode cX4_cheapestDoubters 61 = .ok (.ixor, 1) := by decide +kernel
theorem dX4_cheapestDoubters_62 : decode cX4_cheapestDoubters 62 = .ok (.iand, 1) := by decide +kernel
theorem dX4_cheapestDoubters_63 : decode cX4_cheapestDoubters 63 = .ok (.iaload, 1) := by decide +kernel
theorem dX4_cheapestDoubters_64 : decode cX4_cheapestDoubters 64 = .ok (.invokevirtual 48, 3) := by decide +kernel
theorem dX4_cheapestDoubters_67 : decode cX4_cheapestDoubters 67 = .ok (.ifCond .eq 26, 3) := by decide +kernel
theorem dX4_cheapestDoubters_70 : decode cX4_cheapestDoubters 70 = .ok (.aload_n 1, 1) := by decide +kernel
theorem dX4_cheapestDoubters_71 : decode cX4_cheapestDoubters 71 = .ok (.iload 6, 2) := by decide +kernel
theorem dX4_cheapestDoubters_73 : decode cX4_cheapestDoubters 73 = .ok (.invokestatic 137, 3) := by decide +kernel
theorem dX4_cheapestDoubters_76 : decode cX4_cheapestDoubters 76 = .ok (.istore 7, 2) := by decide +kernel
theorem dX4_cheapestDoubters_78 : decode cX4_cheapestDoubters 78 = .ok (.iload 7, 2) := by decide +kernel
theorem dX4_cheapestDoubters_80 : decode cX4_cheapestDoubters 80 = .ok (.iload 5, 2) := by decide +kernel
theorem dX4_cheapestDoubters_82 : decode cX4_cheapestDoubters 82 = .ok (.if_icmp .ge 11, 3) := by decide +kernel
theorem dX4_cheapestDoubters_85 : decode cX4_cheapestDoubters 85 = .ok (.iload 6, 2) := by decide +kernel
theorem dX4_cheapestDoubters_87 : decode cX4_cheapestDoubters 87 = .ok (.istore 4, 2) := by decide +kernel
theorem dX4_cheapestDoubters_89 : decode cX4_cheapestDoubters 89 = .ok (.iload 7, 2) := by decide +kernel
theorem dX4_cheapestDoubters_91 : decode cX4_cheapestDoubters 91 = .ok (.istore 5, 2) := by decide +kernel
theorem dX4_cheapestDoubters_93 : decode cX4_cheapestDoubters 93 = .ok (.iinc 6 1, 3) := by decide +kernel
theorem dX4_cheapestDoubters_96 : decode cX4_cheapestDoubters 96 = .ok (.goto (-59), 3) := by decide +kernel
theorem dX4_cheapestDoubters_99 : decode cX4_cheapestDoubters 99 = .ok (.iload 4, 2) := by decide +kernel
theorem dX4_cheapestDoubters_101 : decode cX4_cheapestDoubters 101 = .ok (.ireturn, 1) := by decide +kernel
theorem dX4_priceOf_0 : decode cX4_priceOf 0 = .ok (.iconst 0, 1) := by decide +kernel
theorem dX4_priceOf_1 : decode cX4_priceOf 1 = .ok (.istore_n 2, 1) := by decide +kernel
theorem dX4_priceOf_2 : decode cX4_priceOf 2 = .ok (.iconst 0, 1) := by decide +kernel
theorem dX4_priceOf_3 : decode cX4_priceOf 3 = .ok (.istore_n 3, 1) := by decide +kernel
theorem dX4_priceOf_4 : decode cX4_priceOf 4 = .ok (.iload_n 3, 1) := by decide +kernel
theorem dX4_priceOf_5 : decode cX4_priceOf 5 = .ok (.aload_n 0, 1) := by decide +kernel
theorem dX4_priceOf_6 : decode cX4_priceOf 6 = .ok (.getfield 28, 3) := by decide +kernel
theorem dX4_priceOf_9 : decode cX4_priceOf 9 = .ok (.getfield 34, 3) := by decide +kernel
theorem dX4_priceOf_12 : decode cX4_priceOf 12 = .ok (.if_icmp .ge 30, 3) := by decide +kernel
theorem dX4_priceOf_15 : decode cX4_priceOf 15 = .ok (.iload_n 1, 1) := by decide +kernel
theorem dX4_priceOf_16 : decode cX4_priceOf 16 = .ok (.iload_n 3, 1) := by decide +kernel
theorem dX4_priceOf_17 : decode cX4_priceOf 17 = .ok (.invokestatic 118, 3) := by decide +kernel
theorem dX4_priceOf_20 : decode cX4_priceOf 20 = .ok (.iconst 1, 1) := by decide +kernel
theorem dX4_priceOf_21 : decode cX4_priceOf 21 = .ok (.if_icmp .ne 15, 3) := by decide +kernel
theorem dX4_priceOf_24 : decode cX4_priceOf 24 = .ok (.iload_n 2, 1) := by decide +kernel
theorem dX4_priceOf_25 : decode cX4_priceOf 25 = .ok (.aload_n 0, 1) := by decide +kernel
theorem dX4_priceOf_26 : decode cX4_priceOf 26 = .ok (.getfield 28, 3) := by decide +kernel
theorem dX4_priceOf_29 : decode cX4_priceOf 29 = .ok (.getfield 140, 3) := by decide +kernel
theorem dX4_priceOf_32 : decode cX4_priceOf 32 = .ok (.iload_n 3, 1) := by decide +kernel
theorem dX4_priceOf_33 : decode cX4_priceOf 33 = .ok (.iaload, 1) := by decide +kernel
theorem dX4_priceOf_34 : decode cX4_priceOf 34 = .ok (.iadd, 1) := by decide +kernel
theorem dX4_priceOf_35 : decode cX4_priceOf 35 = .ok (.istore_n 2, 1) := by decide +kernel
theorem dX4_priceOf_36 : decode cX4_priceOf 36 = .ok (.iinc 3 1, 3) := by decide +kernel
theorem dX4_priceOf_39 : decode cX4_priceOf 39 = .ok (.goto (-35), 3) := by decide +kernel
theorem dX4_priceOf_42 : decode cX4_priceOf 42 = .ok (.bipush 100, 2) := by decide +kernel
theorem dX4_priceOf_44 : decode cX4_priceOf 44 = .ok (.iload_n 2, 1) := by decide +kernel
theorem dX4_priceOf_45 : decode cX4_priceOf 45 = .ok (.imul, 1) := by decide +kernel
theorem dX4_priceOf_46 : decode cX4_priceOf 46 = .ok (.iload_n 1, 1) := by decide +kernel
theorem dX4_priceOf_47 : decode cX4_priceOf 47 = .ok (.invokestatic 52, 3) := by decide +kernel
theorem dX4_priceOf_50 : decode cX4_priceOf 50 = .ok (.iadd, 1) := by decide +kernel
theorem dX4_priceOf_51 : decode cX4_priceOf 51 = .ok (.ireturn, 1) := by decide +kernel
theorem dX5_init_0 : decode cX5_init 0 = .ok (.aload_n 0, 1) := by decide +kernel
theorem dX5_init_1 : decode cX5_init 1 = .ok (.invokespecial 3, 3) := by decide +kernel
theorem dX5_init_4 : decode cX5_init 4 = .ok (.aload_n 0, 1) := by decide +kernel
theorem dX5_init_5 : decode cX5_init 5 = .ok (.bipush 40, 2) := by decide +kernel
theorem dX5_init_7 : decode cX5_init 7 = .ok (.anewarray 11, 3) := by decide +kernel
theorem dX5_init_10 : decode cX5_init 10 = .ok (.putfield 13, 3) := by decide +kernel
theorem dX5_init_13 : decode cX5_init 13 = .ok (.aload_n 0, 1) := by decide +kernel
theorem dX5_init_14 : decode cX5_init 14 = .ok (.bipush 40, 2) := by decide +kernel
theorem dX5_init_16 : decode cX5_init 16 = .ok (.newarray .int, 2) := by decide +kernel
theorem dX5_init_18 : decode cX5_init 18 = .ok (.putfield 17, 3) := by decide +kernel
theorem dX5_init_21 : decode cX5_init 21 = .ok (.aload_n 0, 1) := by decide +kernel
theorem dX5_init_22 : decode cX5_init 22 = .ok (.bipush 40, 2) := by decide +kernel
theorem dX5_init_24 : decode cX5_init 24 = .ok (.newarray .int, 2) := by decide +kernel
theorem dX5_init_26 : decode cX5_init 26 = .ok (.putfield 21, 3) := by decide +kernel
theorem dX5_init_29 : decode cX5_init 29 = .ok (.aload_n 0, 1) := by decide +kernel
theorem dX5_init_30 : decode cX5_init 30 = .ok (.bipush 40, 2) := by decide +kernel
theorem dX5_init_32 : decode cX5_init 32 = .ok (.newarray .int, 2) := by decide +kernel
theorem dX5_init_34 : decode cX5_init 34 = .ok (.putfield 24, 3) := by decide +kernel
theorem dX5_init_37 : decode cX5_init 37 = .ok (.return_, 1) := by decide +kernel
theorem dX5_copyFrom_0 : decode cX5_copyFrom 0 = .ok (.aload_n 0, 1) := by decide +kernel
theorem dX5_copyFrom_1 : decode cX5_copyFrom 1 = .ok (.aload_n 1, 1) := by decide +kernel
theorem dX5_copyFrom_2 : decode cX5_copyFrom 2 = .ok (.getfield 27, 3) := by decide +kernel
theorem dX5_copyFrom_5 : decode cX5_copyFrom 5 = .ok (.putfield 27, 3) := by decide +kernel
theorem dX5_copyFrom_8 : decode cX5_copyFrom 8 = .ok (.iconst 0, 1) := by decide +kernel
theorem dX5_copyFrom_9 : decode cX5_copyFrom 9 = .ok (.istore_n 2, 1) := by decide +kernel
theorem dX5_copyFrom_10 : decode cX5_copyFrom 10 = .ok (.iload_n 2, 1) := by decide +kernel
theorem dX5_copyFrom_11 : decode cX5_copyFrom 11 = .ok (.aload_n 0, 1) := by decide +kernel
theorem dX5_copyFrom_12 : decode cX5_copyFrom 12 = .ok (.getfield 27, 3) := by decide +kernel
theorem dX5_copyFrom_15 : decode cX5_copyFrom 15 = .ok (.if_icmp .ge 45, 3) := by decide +kernel
theorem dX5_copyFrom_18 : decode cX5_copyFrom 18 = .ok (.aload_n 0, 1) := by decide +kernel
theorem dX5_copyFrom_19 : decode cX5_copyFrom 19 = .ok (.getfield 13, 3) := by decide +kernel
theorem dX5_copyFrom_22 : decode cX5_copyFrom 22 = .ok (.iload_n 2, 1) := by decide +kernel
theorem dX5_copyFrom_23 : decode cX5_copyFrom 23 = .ok (.aload_n 1, 1) := by decide +kernel
theorem dX5_copyFrom_24 : decode cX5_copyFrom 24 = .ok (.getfield 13, 3) := by decide +kernel
theorem dX5_copyFrom_27 : decode cX5_copyFrom 27 = .ok (.iload_n 2, 1) := by decide +kernel
theorem dX5_copyFrom_28 : decode cX5_copyFrom 28 = .ok (.aaload, 1) := by decide +kernel
theorem dX5_copyFrom_29 : decode cX5_copyFrom 29 = .ok (.aastore, 1) := by decide +kernel
theorem dX5_copyFrom_30 : decode cX5_copyFrom 30 = .ok (.aload_n 0, 1) := by decide +kernel
theorem dX5_copyFrom_31 : decode cX5_copyFrom 31 = .ok (.getfield 17, 3) := by decide +kernel
theorem dX5_copyFrom_34 : decode cX5_copyFrom 34 = .ok (.iload_n 2, 1) := by decide +kernel
theorem dX5_copyFrom_35 : decode cX5_copyFrom 35 = .ok (.aload_n 1, 1) := by decide +kernel
theorem dX5_copyFrom_36 : decode cX5_copyFrom 36 = .ok (.getfield 17, 3) := by decide +kernel
theorem dX5_copyFrom_39 : decode cX5_copyFrom 39 = .ok (.iload_n 2, 1) := by decide +kernel
theorem dX5_copyFrom_40 : decode cX5_copyFrom 40 = .ok (.iaload, 1) := by decide +kernel
theorem dX5_copyFrom_41 : decode cX5_copyFrom 41 = .ok (.iastore, 1) := by decide +kernel
theorem dX5_copyFrom_42 : decode cX5_copyFrom 42 = .ok (.aload_n 0, 1) := by decide +kernel
theorem dX5_copyFrom_43 : decode cX5_copyFrom 43 = .ok (.getfield 21, 3) := by decide +kernel
theorem dX5_copyFrom_46 : decode cX5_copyFrom 46 = .ok (.iload_n 2, 1) := by decide +kernel
theorem dX5_copyFrom_47 : decode cX5_copyFrom 47 = .ok (.aload_n 1, 1) := by decide +kernel
theorem dX5_copyFrom_48 : decode cX5_copyFrom 48 = .ok (.getfield 21, 3) := by decide +kernel
theorem dX5_copyFrom_51 : decode cX5_copyFrom 51 = .ok (.iload_n 2, 1) := by decide +kernel
theorem dX5_copyFrom_52 : decode cX5_copyFrom 52 = .ok (.iaload, 1) := by decide +kernel
theorem dX5_copyFrom_53 : decode cX5_copyFrom 53 = .ok (.iastore, 1) := by decide +kernel
theorem dX5_copyFrom_54 : decode cX5_copyFrom 54 = .ok (.iinc 2 1, 3) := by decide +kernel
theorem dX5_copyFrom_57 : decode cX5_copyFrom 57 = .ok (.goto (-47), 3) := by decide +kernel
theorem dX5_copyFrom_60 : decode cX5_copyFrom 60 = .ok (.return_, 1) := by decide +kernel
theorem dX5_add_0 : decode cX5_add 0 = .ok (.aload_n 0, 1) := by decide +kernel
theorem dX5_add_1 : decode cX5_add 1 = .ok (.getfield 27, 3) := by decide +kernel
theorem dX5_add_4 : decode cX5_add 4 = .ok (.bipush 40, 2) := by decide +kernel
theorem dX5_add_6 : decode cX5_add 6 = .ok (.if_icmp .ge 43, 3) := by decide +kernel
theorem dX5_add_9 : decode cX5_add 9 = .ok (.aload_n 0, 1) := by decide +kernel
theorem dX5_add_10 : decode cX5_add 10 = .ok (.getfield 13, 3) := by decide +kernel
theorem dX5_add_13 : decode cX5_add 13 = .ok (.aload_n 0, 1) := by decide +kernel
theorem dX5_add_14 : decode cX5_add 14 = .ok (.getfield 27, 3) := by decide +kernel
theorem dX5_add_17 : decode cX5_add 17 = .ok (.aload_n 1, 1) := by decide +kernel
theorem dX5_add_18 : decode cX5_add 18 = .ok (.aastore, 1) := by decide +kernel
theorem dX5_add_19 : decode cX5_add 19 = .ok (.aload_n 0, 1) := by decide +kernel
theorem dX5_add_20 : decode cX5_add 20 = .ok (.getfield 21, 3) := by decide +kernel
theorem dX5_add_23 : decode cX5_add 23 = .ok (.aload_n 0, 1) := by decide +kernel
theorem dX5_add_24 : decode cX5_add 24 = .ok (.getfield 27, 3) := by decide +kernel
theorem dX5_add_27 : decode cX5_add 27 = .ok (.iload_n 2, 1) := by decide +kernel
theorem dX5_add_28 : decode cX5_add 28 = .ok (.iastore, 1) := by decide +kernel
theorem dX5_add_29 : decode cX5_add 29 = .ok (.aload_n 0, 1) := by decide +kernel
theorem dX5_add_30 : decode cX5_add 30 = .ok (.getfield 17, 3) := by decide +kernel
theorem dX5_add_33 : decode cX5_add 33 = .ok (.aload_n 0, 1) := by decide +kernel
theorem dX5_add_34 : decode cX5_add 34 = .ok (.getfield 27, 3) := by decide +kernel
theorem dX5_add_37 : decode cX5_add 37 = .ok (.iload_n 3, 1) := by decide +kernel
theorem dX5_add_38 : decode cX5_add 38 = .ok (.iastore, 1) := by decide +kernel
theorem dX5_add_39 : decode cX5_add 39 = .ok (.aload_n 0, 1) := by decide +kernel
theorem dX5_add_40 : decode cX5_add 40 = .ok (.dup, 1) := by decide +kernel
theorem dX5_add_41 : decode cX5_add 41 = .ok (.getfield 27, 3) := by decide +kernel
theorem dX5_add_44 : decode cX5_add 44 = .ok (.iconst 1, 1) := by decide +kernel
theorem dX5_add_45 : decode cX5_add 45 = .ok (.iadd, 1) := by decide +kernel
theorem dX5_add_46 : decode cX5_add 46 = .ok (.putfield 27, 3) := by decide +kernel
theorem dX5_add_49 : decode cX5_add 49 = .ok (.return_, 1) := by decide +kernel
theorem dX5_menOf_0 : decode cX5_menOf 0 = .ok (.aload_n 1, 1) := by decide +kernel
theorem dX5_menOf_1 : decode cX5_menOf 1 = .ok (.getfield 31, 3) := by decide +kernel
theorem dX5_menOf_4 : decode cX5_menOf 4 = .ok (.invokevirtual 37, 3) := by decide +kernel
theorem dX5_menOf_7 : decode cX5_menOf 7 = .ok (.istore_n 2, 1) := by decide +kernel
theorem dX5_menOf_8 : decode cX5_menOf 8 = .ok (.iconst (-1), 1) := by decide +kernel
theorem dX5_menOf_9 : decode cX5_menOf 9 = .ok (.istore_n 3, 1) := by decide +kernel
theorem dX5_menOf_10 : decode cX5_menOf 10 = .ok (.iconst 0, 1) := by decide +kernel
theorem dX5_menOf_11 : decode cX5_menOf 11 = .ok (.istore 4, 2) := by decide +kernel
theorem dX5_menOf_13 : decode cX5_menOf 13 = .ok (.iload 4, 2) := by decide +kernel
theorem dX5_menOf_15 : decode cX5_menOf 15 = .ok (.aload_n 0, 1) := by decide +kernel
theorem dX5_menOf_16 : decode cX5_menOf 16 = .ok (.getfield 27, 3) := by decide +kernel
theorem dX5_menOf_19 : decode cX5_menOf 19 = .ok (.if_icmp .ge 137, 3) := by decide +kernel
theorem dX5_menOf_22 : decode cX5_menOf 22 = .ok (.aload_n 0, 1) := by decide +kernel
theorem dX5_menOf_23 : decode cX5_menOf 23 = .ok (.getfield 13, 3) := by decide +kernel
theorem dX5_menOf_26 : decode cX5_menOf 26 = .ok (.iload 4, 2) := by decide +kernel
theorem dX5_menOf_28 : decode cX5_menOf 28 = .ok (.aaload, 1) := by decide +kernel
theorem dX5_menOf_29 : decode cX5_menOf 29 = .ok (.astore 5, 2) := by decide +kernel
theorem dX5_menOf_31 : decode cX5_menOf 31 = .ok (.aload 5, 2) := by decide +kernel
theorem dX5_menOf_33 : decode cX5_menOf 33 = .ok (.getstatic 43, 3) := by decide +kernel
theorem dX5_menOf_36 : decode cX5_menOf 36 = .ok (.if_acmp .ne 26, 3) := by decide +kernel
theorem dX5_menOf_39 : decode cX5_menOf 39 = .ok (.iload_n 3, 1) := by decide +kernel
theorem dX5_menOf_40 : decode cX5_menOf 40 = .ok (.ifCond .lt 22, 3) := by decide +kernel
theorem dX5_menOf_43 : decode cX5_menOf 43 = .ok (.aload_n 0, 1) := by decide +kernel
theorem dX5_menOf_44 : decode cX5_menOf 44 = .ok (.getfield 24, 3) := by decide +kernel
theorem dX5_menOf_47 : decode cX5_menOf 47 = .ok (.iload_n 3, 1) := by decide +kernel
theorem dX5_menOf_48 : decode cX5_menOf 48 = .ok (.iload_n 2, 1) := by decide +kernel
theorem dX5_menOf_49 : decode cX5_menOf 49 = .ok (.aload_n 0, 1) := by decide +kernel
theorem dX5_menOf_50 : decode cX5_menOf 50 = .ok (.getfield 24, 3) := by decide +kernel
theorem dX5_menOf_53 : decode cX5_menOf 53 = .ok (.iload_n 3, 1) := by decide +kernel
theorem dX5_menOf_54 : decode cX5_menOf 54 = .ok (.iaload, 1) := by decide +kernel
theorem dX5_menOf_55 : decode cX5_menOf 55 = .ok (.iconst (-1), 1) := by decide +kernel
theorem dX5_menOf_56 : decode cX5_menOf 56 = .ok (.ixor, 1) := by decide +kernel
theorem dX5_menOf_57 : decode cX5_menOf 57 = .ok (.iand, 1) := by decide +kernel
theorem dX5_menOf_58 : decode cX5_menOf 58 = .ok (.iastore, 1) := by decide +kernel
theorem dX5_menOf_59 : decode cX5_menOf 59 = .ok (.goto 91, 3) := by decide +kernel
theorem dX5_menOf_62 : decode cX5_menOf 62 = .ok (.aload 5, 2) := by decide +kernel
theorem dX5_menOf_64 : decode cX5_menOf 64 = .ok (.getstatic 47, 3) := by decide +kernel
theorem dX5_menOf_67 : decode cX5_menOf 67 = .ok (.if_acmp .ne 31, 3) := by decide +kernel
theorem dX5_menOf_70 : decode cX5_menOf 70 = .ok (.iload_n 3, 1) := by decide +kernel
theorem dX5_menOf_71 : decode cX5_menOf 71 = .ok (.iconst 1, 1) := by decide +kernel
theorem dX5_menOf_72 : decode cX5_menOf 72 = .ok (.if_icmp .lt 26, 3) := by decide +kernel
theorem dX5_menOf_75 : decode cX5_menOf 75 = .ok (.iinc 3 (-1), 3) := by decide +kernel
theorem dX5_menOf_78 : decode cX5_menOf 78 = .ok (.aload_n 0, 1) := by decide +kernel
theorem dX5_menOf_79 : decode cX5_menOf 79 = .ok (.getfield 24, 3) := by decide +kernel
theorem dX5_menOf_82 : decode cX5_menOf 82 = .ok (.iload_n 3, 1) := by decide +kernel
theorem dX5_menOf_83 : decode cX5_menOf 83 = .ok (.dup2, 1) := by decide +kernel
theorem dX5_menOf_84 : decode cX5_menOf 84 = .ok (.iaload, 1) := by decide +kernel
theorem dX5_menOf_85 : decode cX5_menOf 85 = .ok (.aload_n 0, 1) := by decide +kernel
theorem dX5_menOf_86 : decode cX5_menOf 86 = .ok (.getfield 24, 3) := by decide +kernel
theorem dX5_menOf_89 : decode cX5_menOf 89 = .ok (.iload_n 3, 1) := by decide +kernel
theorem dX5_menOf_90 : decode cX5_menOf 90 = .ok (.iconst 1, 1) := by decide +kernel
theorem dX5_menOf_91 : decode cX5_menOf 91 = .ok (.iadd, 1) := by decide +kernel
theorem dX5_menOf_92 : decode cX5_menOf 92 = .ok (.iaload, 1) := by decide +kernel
theorem dX5_menOf_93 : decode cX5_menOf 93 = .ok (.iand, 1) := by decide +kernel
theorem dX5_menOf_94 : decode cX5_menOf 94 = .ok (.iastore, 1) := by decide +kernel
theorem dX5_menOf_95 : decode cX5_menOf 95 = .ok (.goto 55, 3) := by decide +kernel
theorem dX5_menOf_98 : decode cX5_menOf 98 = .ok (.aload 5, 2) := by decide +kernel
theorem dX5_menOf_100 : decode cX5_menOf 100 = .ok (.getstatic 50, 3) := by decide +kernel
theorem dX5_menOf_103 : decode cX5_menOf 103 = .ok (.if_acmp .ne 31, 3) := by decide +kernel
theorem dX5_menOf_106 : decode cX5_menOf 106 = .ok (.iload_n 3, 1) := by decide +kernel
theorem dX5_menOf_107 : decode cX5_menOf 107 = .ok (.iconst 1, 1) := by decide +kernel
theorem dX5_menOf_108 : decode cX5_menOf 108 = .ok (.if_icmp .lt 26, 3) := by decide +kernel
theorem dX5_menOf_111 : decode cX5_menOf 111 = .ok (.iinc 3 (-1), 3) := by decide +kernel
theorem dX5_menOf_114 : decode cX5_menOf 114 = .ok (.aload_n 0, 1) := by decide +kernel
theorem dX5_menOf_115 : decode cX5_menOf 115 = .ok (.getfield 24, 3) := by decide +kernel
theorem dX5_menOf_118 : decode cX5_menOf 118 = .ok (.iload_n 3, 1) := by decide +kernel
theorem dX5_menOf_119 : decode cX5_menOf 119 = .ok (.dup2, 1) := by decide +kernel
theorem dX5_menOf_120 : decode cX5_menOf 120 = .ok (.iaload, 1) := by decide +kernel
theorem dX5_menOf_121 : decode cX5_menOf 121 = .ok (.aload_n 0, 1) := by decide +kernel
theorem dX5_menOf_122 : decode cX5_menOf 122 = .ok (.getfield 24, 3) := by decide +kernel
theorem dX5_menOf_125 : decode cX5_menOf 125 = .ok (.iload_n 3, 1) := by decide +kernel
theorem dX5_menOf_126 : decode cX5_menOf 126 = .ok (.iconst 1, 1) := by decide +kernel
theorem dX5_menOf_127 : decode cX5_menOf 127 = .ok (.iadd, 1) := by decide +kernel
theorem dX5_menOf_128 : decode cX5_menOf 128 = .ok (.iaload, 1) := by decide +kernel
theorem dX5_menOf_129 : decode cX5_menOf 129 = .ok (.ior, 1) := by decide +kernel
theorem dX5_menOf_130 : decode cX5_menOf 130 = .ok (.iastore, 1) := by decide +kernel
theorem dX5_menOf_131 : decode cX5_menOf 131 = .ok (.goto 19, 3) := by decide +kernel
theorem dX5_menOf_134 : decode cX5_menOf 134 = .ok (.iinc 3 1, 3) := by decide +kernel
theorem dX5_menOf_137 : decode cX5_menOf 137 = .ok (.aload_n 0, 1) := by decide +kernel
theorem dX5_menOf_138 : decode cX5_menOf 138 = .ok (.getfield 24, 3) := by decide +kernel
theorem dX5_menOf_141 : decode cX5_menOf 141 = .ok (.iload_n 3, 1) := by decide +kernel
theorem dX5_menOf_142 : decode cX5_menOf 142 = .ok (.aload_n 0, 1) := by decide +kernel
theorem dX5_menOf_143 : decode cX5_menOf 143 = .ok (.aload_n 1, 1) := by decide +kernel
theorem dX5_menOf_144 : decode cX5_menOf 144 = .ok (.iload 4, 2) := by decide +kernel
theorem dX5_menOf_146 : decode cX5_menOf 146 = .ok (.invokevirtual 53, 3) := by decide +kernel
theorem dX5_menOf_149 : decode cX5_menOf 149 = .ok (.iastore, 1) := by decide +kernel
theorem dX5_menOf_150 : decode cX5_menOf 150 = .ok (.iinc 4 1, 3) := by decide +kernel
theorem dX5_menOf_153 : decode cX5_menOf 153 = .ok (.goto (-140), 3) := by decide +kernel
theorem dX5_menOf_156 : decode cX5_menOf 156 = .ok (.iload_n 3, 1) := by decide +kernel
theorem dX5_menOf_157 : decode cX5_menOf 157 = .ok (.ifCond .ne 12, 3) := by decide +kernel
theorem dX5_menOf_160 : decode cX5_menOf 160 = .ok (.aload_n 0, 1) := by decide +kernel
theorem dX5_menOf_161 : decode cX5_menOf 161 = .ok (.getfield 24, 3) := by decide +kernel
theorem dX5_menOf_164 : decode cX5_menOf 164 = .ok (.iconst 0, 1) := by decide +kernel
theorem dX5_menOf_165 : decode cX5_menOf 165 = .ok (.iaload, 1) := by decide +kernel
theorem dX5_menOf_166 : decode cX5_menOf 166 = .ok (.goto 4, 3) := by decide +kernel
theorem dX5_menOf_169 : decode cX5_menOf 169 = .ok (.iconst 0, 1) := by decide +kernel
theorem dX5_menOf_170 : decode cX5_menOf 170 = .ok (.ireturn, 1) := by decide +kernel
theorem dX5_menOfOne_0 : decode cX5_menOfOne 0 = .ok (.aload_n 0, 1) := by decide +kernel
theorem dX5_menOfOne_1 : decode cX5_menOfOne 1 = .ok (.getfield 13, 3) := by decide +kernel
theorem dX5_menOfOne_4 : decode cX5_menOfOne 4 = .ok (.iload_n 2, 1) := by decide +kernel
theorem dX5_menOfOne_5 : decode cX5_menOfOne 5 = .ok (.aaload, 1) := by decide +kernel
theorem dX5_menOfOne_6 : decode cX5_menOfOne 6 = .ok (.astore_n 3, 1) := by decide +kernel
theorem dX5_menOfOne_7 : decode cX5_menOfOne 7 = .ok (.aload_n 3, 1) := by decide +kernel
theorem dX5_menOfOne_8 : decode cX5_menOfOne 8 = .ok (.getstatic 57, 3) := by decide +kernel
theorem dX5_menOfOne_11 : decode cX5_menOfOne 11 = .ok (.if_acmp .ne 11, 3) := by decide +kernel
theorem dX5_menOfOne_14 : decode cX5_menOfOne 14 = .ok (.aload_n 1, 1) := by decide +kernel
theorem dX5_menOfOne_15 : decode cX5_menOfOne 15 = .ok (.getfield 60, 3) := by decide +kernel
theorem dX5_menOfOne_18 : decode cX5_menOfOne 18 = .ok (.getfield 64, 3) := by decide +kernel
theorem dX5_menOfOne_21 : decode cX5_menOfOne 21 = .ok (.ireturn, 1) := by decide +kernel
theorem dX5_menOfOne_22 : decode cX5_menOfOne 22 = .ok (.aload_n 3, 1) := by decide +kernel
theorem dX5_menOfOne_23 : decode cX5_menOfOne 23 = .ok (.getstatic 69, 3) := by decide +kernel
theorem dX5_menOfOne_26 : decode cX5_menOfOne 26 = .ok (.if_acmp .ne 11, 3) := by decide +kernel
theorem dX5_menOfOne_29 : decode cX5_menOfOne 29 = .ok (.aload_n 1, 1) := by decide +kernel
theorem dX5_menOfOne_30 : decode cX5_menOfOne 30 = .ok (.getfield 60, 3) := by decide +kernel
theorem dX5_menOfOne_33 : decode cX5_menOfOne 33 = .ok (.getfield 72, 3) := by decide +kernel
theorem dX5_menOfOne_36 : decode cX5_menOfOne 36 = .ok (.ireturn, 1) := by decide +kernel
theorem dX5_menOfOne_37 : decode cX5_menOfOne 37 = .ok (.aload_n 3, 1) := by decide +kernel
theorem dX5_menOfOne_38 : decode cX5_menOfOne 38 = .ok (.getstatic 75, 3) := by decide +kernel
theorem dX5_menOfOne_41 : decode cX5_menOfOne 41 = .ok (.if_acmp .ne 11, 3) := by decide +kernel
theorem dX5_menOfOne_44 : decode cX5_menOfOne 44 = .ok (.aload_n 1, 1) := by decide +kernel
theorem dX5_menOfOne_45 : decode cX5_menOfOne 45 = .ok (.getfield 60, 3) := by decide +kernel
theorem dX5_menOfOne_48 : decode cX5_menOfOne 48 = .ok (.getfield 78, 3) := by decide +kernel
theorem dX5_menOfOne_51 : decode cX5_menOfOne 51 = .ok (.ireturn, 1) := by decide +kernel
theorem dX5_menOfOne_52 : decode cX5_menOfOne 52 = .ok (.aload_n 3, 1) := by decide +kernel
theorem dX5_menOfOne_53 : decode cX5_menOfOne 53 = .ok (.getstatic 81, 3) := by decide +kernel
theorem dX5_menOfOne_56 : decode cX5_menOfOne 56 = .ok (.if_acmp .ne 14, 3) := by decide +kernel
theorem dX5_menOfOne_59 : decode cX5_menOfOne 59 = .ok (.aload_n 1, 1) := by decide +kernel
theorem dX5_menOfOne_60 : decode cX5_menOfOne 60 = .ok (.aload_n 0, 1) := by decide +kernel
theorem dX5_menOfOne_61 : decode cX5_menOfOne 61 = .ok (.getfield 17, 3) := by decide +kernel
theorem dX5_menOfOne_64 : decode cX5_menOfOne 64 = .ok (.iload_n 2, 1) := by decide +kernel
theorem dX5_menOfOne_65 : decode cX5_menOfOne 65 = .ok (.iaload, 1) := by decide +kernel
theorem dX5_menOfOne_66 : decode cX5_menOfOne 66 = .ok (.invokevirtual 84, 3) := by decide +kernel
theorem dX5_menOfOne_69 : decode cX5_menOfOne 69 = .ok (.ireturn, 1) := by decide +kernel
theorem dX5_menOfOne_70 : decode cX5_menOfOne 70 = .ok (.iconst 0, 1) := by decide +kernel
theorem dX5_menOfOne_71 : decode cX5_menOfOne 71 = .ok (.istore 4, 2) := by decide +kernel
theorem dX5_menOfOne_73 : decode cX5_menOfOne 73 = .ok (.iconst 0, 1) := by decide +kernel
theorem dX5_menOfOne_74 : decode cX5_menOfOne 74 = .ok (.istore 5, 2) := by decide +kernel
theorem dX5_menOfOne_76 : decode cX5_menOfOne 76 = .ok (.iload 5, 2) := by decide +kernel
theorem dX5_menOfOne_78 : decode cX5_menOfOne 78 = .ok (.aload_n 1, 1) := by decide +kernel
theorem dX5_menOfOne_79 : decode cX5_menOfOne 79 = .ok (.getfield 31, 3) := by decide +kernel
theorem dX5_menOfOne_82 : decode cX5_menOfOne 82 = .ok (.getfield 88, 3) := by decide +kernel
theorem dX5_menOfOne_85 : decode cX5_menOfOne 85 = .ok (.if_icmp .ge 29, 3) := by decide +kernel
theorem dX5_menOfOne_88 : decode cX5_menOfOne 88 = .ok (.aload_n 0, 1) := by decide +kernel
theorem dX5_menOfOne_89 : decode cX5_menOfOne 89 = .ok (.aload_n 1, 1) := by decide +kernel
theorem dX5_menOfOne_90 : decode cX5_menOfOne 90 = .ok (.iload_n 2, 1) := by decide +kernel
theorem dX5_menOfOne_91 : decode cX5_menOfOne 91 = .ok (.iload 5, 2) := by decide +kernel
theorem dX5_menOfOne_93 : decode cX5_menOfOne 93 = .ok (.invokevirtual 91, 3) := by decide +kernel
theorem dX5_menOfOne_96 : decode cX5_menOfOne 96 = .ok (.ifCond .eq 12, 3) := by decide +kernel
theorem dX5_menOfOne_99 : decode cX5_menOfOne 99 = .ok (.iload 4, 2) := by decide +kernel
theorem dX5_menOfOne_101 : decode cX5_menOfOne 101 = .ok (.iconst 1, 1) := by decide +kernel
theorem dX5_menOfOne_102 : decode cX5_menOfOne 102 = .ok (.iload 5, 2) := by decide +kernel
theorem dX5_menOfOne_104 : decode cX5_menOfOne 104 = .ok (.ishl, 1) := by decide +kernel
theorem dX5_menOfOne_105 : decode cX5_menOfOne 105 = .ok (.ior, 1) := by decide +kernel
theorem dX5_menOfOne_106 : decode cX5_menOfOne 106 = .ok (.istore 4, 2) := by decide +kernel
theorem dX5_menOfOne_108 : decode cX5_menOfOne 108 = .ok (.iinc 5 1, 3) := by decide +kernel
theorem dX5_menOfOne_111 : decode cX5_menOfOne 111 = .ok (.goto (-35), 3) := by decide +kernel
theorem dX5_menOfOne_114 : decode cX5_menOfOne 114 = .ok (.iload 4, 2) := by decide +kernel
theorem dX5_menOfOne_116 : decode cX5_menOfOne 116 = .ok (.ireturn, 1) := by decide +kernel
theorem dX5_isTrueOf_0 : decode cX5_isTrueOf 0 = .ok (.aload_n 0, 1) := by decide +kernel
theorem dX5_isTrueOf_1 : decode cX5_isTrueOf 1 = .ok (.getfield 13, 3) := by decide +kernel
theorem dX5_isTrueOf_4 : decode cX5_isTrueOf 4 = .ok (.iload_n 2, 1) := by decide +kernel
theorem dX5_isTrueOf_5 : decode cX5_isTrueOf 5 = .ok (.aaload, 1) := by decide +kernel
theorem dX5_isTrueOf_6 : decode cX5_isTrueOf 6 = .ok (.astore 4, 2) := by decide +kernel
theorem dX5_isTrueOf_8 : decode cX5_isTrueOf 8 = .ok (.aload_n 0, 1) := by decide +kernel
theorem dX5_isTrueOf_9 : decode cX5_isTrueOf 9 = .ok (.getfield 17, 3) := by decide +kernel
theorem dX5_isTrueOf_12 : decode cX5_isTrueOf 12 = .ok (.iload_n 2, 1) := by decide +kernel
theorem dX5_isTrueOf_13 : decode cX5_isTrueOf 13 = .ok (.iaload, 1) := by decide +kernel
theorem dX5_isTrueOf_14 : decode cX5_isTrueOf 14 = .ok (.istore 5, 2) := by decide +kernel
theorem dX5_isTrueOf_16 : decode cX5_isTrueOf 16 = .ok (.aload 4, 2) := by decide +kernel
theorem dX5_isTrueOf_18 : decode cX5_isTrueOf 18 = .ok (.getstatic 95, 3) := by decide +kernel
theorem dX5_isTrueOf_21 : decode cX5_isTrueOf 21 = .ok (.if_acmp .ne 19, 3) := by decide +kernel
theorem dX5_isTrueOf_24 : decode cX5_isTrueOf 24 = .ok (.aload_n 1, 1) := by decide +kernel
theorem dX5_isTrueOf_25 : decode cX5_isTrueOf 25 = .ok (.iload_n 3, 1) := by decide +kernel
theorem dX5_isTrueOf_26 : decode cX5_isTrueOf 26 = .ok (.iload 5, 2) := by decide +kernel
theorem dX5_isTrueOf_28 : decode cX5_isTrueOf 28 = .ok (.invokevirtual 98, 3) := by decide +kernel
theorem dX5_isTrueOf_31 : decode cX5_isTrueOf 31 = .ok (.ifCond .le 7, 3) := by decide +kernel
theorem dX5_isTrueOf_34 : decode cX5_isTrueOf 34 = .ok (.iconst 1, 1) := by decide +kernel
theorem dX5_isTrueOf_35 : decode cX5_isTrueOf 35 = .ok (.goto 4, 3) := by decide +kernel
theorem dX5_isTrueOf_38 : decode cX5_isTrueOf 38 = .ok (.iconst 0, 1) := by decide +kernel
theorem dX5_isTrueOf_39 : decode cX5_isTrueOf 39 = .ok (.ireturn, 1) := by decide +kernel
theorem dX5_isTrueOf_40 : decode cX5_isTrueOf 40 = .ok (.aload 4, 2) := by decide +kernel
theorem dX5_isTrueOf_42 : decode cX5_isTrueOf 42 = .ok (.getstatic 102, 3) := by decide +kernel
theorem dX5_isTrueOf_45 : decode cX5_isTrueOf 45 = .ok (.if_acmp .ne 19, 3) := by decide +kernel
theorem dX5_isTrueOf_48 : decode cX5_isTrueOf 48 = .ok (.aload_n 1, 1) := by decide +kernel
theorem dX5_isTrueOf_49 : decode cX5_isTrueOf 49 = .ok (.iload_n 3, 1) := by decide +kernel
theorem dX5_isTrueOf_50 : decode cX5_isTrueOf 50 = .ok (.iload 5, 2) := by decide +kernel
theorem dX5_isTrueOf_52 : decode cX5_isTrueOf 52 = .ok (.invokevirtual 98, 3) := by decide +kernel
theorem dX5_isTrueOf_55 : decode cX5_isTrueOf 55 = .ok (.ifCond .ge 7, 3) := by decide +kernel
theorem dX5_isTrueOf_58 : decode cX5_isTrueOf 58 = .ok (.iconst 1, 1) := by decide +kernel
theorem dX5_isTrueOf_59 : decode cX5_isTrueOf 59 = .ok (.goto 4, 3) := by decide +kernel
theorem dX5_isTrueOf_62 : decode cX5_isTrueOf 62 = .ok (.iconst 0, 1) := by decide +kernel
theorem dX5_isTrueOf_63 : decode cX5_isTrueOf 63 = .ok (.ireturn, 1) := by decide +kernel
theorem dX5_isTrueOf_64 : decode cX5_isTrueOf 64 = .ok (.aload_n 1, 1) := by decide +kernel
theorem dX5_isTrueOf_65 : decode cX5_isTrueOf 65 = .ok (.aload 4, 2) := by decide +kernel
theorem dX5_isTrueOf_67 : decode cX5_isTrueOf 67 = .ok (.iload_n 3, 1) := by decide +kernel
theorem dX5_isTrueOf_68 : decode cX5_isTrueOf 68 = .ok (.invokestatic 105, 3) := by decide +kernel
theorem dX5_isTrueOf_71 : decode cX5_isTrueOf 71 = .ok (.istore 6, 2) := by decide +kernel
theorem dX5_isTrueOf_73 : decode cX5_isTrueOf 73 = .ok (.aload_n 0, 1) := by decide +kernel
theorem dX5_isTrueOf_74 : decode cX5_isTrueOf 74 = .ok (.getfield 21, 3) := by decide +kernel
theorem dX5_isTrueOf_77 : decode cX5_isTrueOf 77 = .ok (.iload_n 2, 1) := by decide +kernel
theorem dX5_isTrueOf_78 : decode cX5_isTrueOf 78 = .ok (.iaload, 1) := by decide +kernel
theorem dX5_isTrueOf_79 : decode cX5_isTrueOf 79 = .ok (.lookupswitch 51 #[(60, 25), (61, 38)], 25) := by decide +kernel
theorem dX5_isTrueOf_104 : decode cX5_isTrueOf 104 = .ok (.iload 6, 2) := by decide +kernel
theorem dX5_isTrueOf_106 : decode cX5_isTrueOf 106 = .ok (.iload 5, 2) := by decide +kernel
theorem dX5_isTrueOf_108 : decode cX5_isTrueOf 108 = .ok (.if_icmp .ge 7, 3) := by decide +kernel
theorem dX5_isTrueOf_111 : decode cX5_isTrueOf 111 = .ok (.iconst 1, 1) := by decide +kernel
theorem dX5_isTrueOf_112 : decode cX5_isTrueOf 112 = .ok (.goto 4, 3) := by decide +kernel
theorem dX5_isTrueOf_115 : decode cX5_isTrueOf 115 = .ok (.iconst 0, 1) := by decide +kernel
theorem dX5_isTrueOf_116 : decode cX5_isTrueOf 116 = .ok (.ireturn, 1) := by decide +kernel
theorem dX5_isTrueOf_117 : decode cX5_isTrueOf 117 = .ok (.iload 6, 2) := by decide +kernel
theorem dX5_isTrueOf_119 : decode cX5_isTrueOf 119 = .ok (.iload 5, 2) := by decide +kernel
theorem dX5_isTrueOf_121 : decode cX5_isTrueOf 121 = .ok (.if_icmp .ne 7, 3) := by decide +kernel
theorem dX5_isTrueOf_124 : decode cX5_isTrueOf 124 = .ok (.iconst 1, 1) := by decide +kernel
theorem dX5_isTrueOf_125 : decode cX5_isTrueOf 125 = .ok (.goto 4, 3) := by decide +kernel
theorem dX5_isTrueOf_128 : decode cX5_isTrueOf 128 = .ok (.iconst 0, 1) := by decide +kernel
theorem dX5_isTrueOf_129 : decode cX5_isTrueOf 129 = .ok (.ireturn, 1) := by decide +kernel
theorem dX5_isTrueOf_130 : decode cX5_isTrueOf 130 = .ok (.iload 6, 2) := by decide +kernel
theorem dX5_isTrueOf_132 : decode cX5_isTrueOf 132 = .ok (.iload 5, 2) := by decide +kernel
theorem dX5_isTrueOf_134 : decode cX5_isTrueOf 134 = .ok (.if_icmp .le 7, 3) := by decide +kernel
theorem dX5_isTrueOf_137 : decode cX5_isTrueOf 137 = .ok (.iconst 1, 1) := by decide +kernel
theorem dX5_isTrueOf_138 : decode cX5_isTrueOf 138 = .ok (.goto 4, 3) := by decide +kernel
theorem dX5_isTrueOf_141 : decode cX5_isTrueOf 141 = .ok (.iconst 0, 1) := by decide +kernel
theorem dX5_isTrueOf_142 : decode cX5_isTrueOf 142 = .ok (.ireturn, 1) := by decide +kernel
theorem dX5_measure_0 : decode cX5_measure 0 = .ok (.aload_n 1, 1) := by decide +kernel
theorem dX5_measure_1 : decode cX5_measure 1 = .ok (.getstatic 109, 3) := by decide +kernel
theorem dX5_measure_4 : decode cX5_measure 4 = .ok (.if_acmp .ne 13, 3) := by decide +kernel
theorem dX5_measure_7 : decode cX5_measure 7 = .ok (.aload_n 0, 1) := by decide +kernel
theorem dX5_measure_8 : decode cX5_measure 8 = .ok (.getfield 31, 3) := by decide +kernel
theorem dX5_measure_11 : decode cX5_measure 11 = .ok (.getfield 112, 3) := by decide +kernel
theorem dX5_measure_14 : decode cX5_measure 14 = .ok (.iload_n 2, 1) := by decide +kernel
theorem dX5_measure_15 : decode cX5_measure 15 = .ok (.iaload, 1) := by decide +kernel
theorem dX5_measure_16 : decode cX5_measure 16 = .ok (.ireturn, 1) := by decide +kernel
theorem dX5_measure_17 : decode cX5_measure 17 = .ok (.aload_n 1, 1) := by decide +kernel
theorem dX5_measure_18 : decode cX5_measure 18 = .ok (.getstatic 115, 3) := by decide +kernel
theorem dX5_measure_21 : decode cX5_measure 21 = .ok (.if_acmp .ne 13, 3) := by decide +kernel
theorem dX5_measure_24 : decode cX5_measure 24 = .ok (.aload_n 0, 1) := by decide +kernel
theorem dX5_measure_25 : decode cX5_measure 25 = .ok (.getfield 60, 3) := by decide +kernel
theorem dX5_measure_28 : decode cX5_measure 28 = .ok (.getfield 118, 3) := by decide +kernel
theorem dX5_measure_31 : decode cX5_measure 31 = .ok (.iload_n 2, 1) := by decide +kernel
theorem dX5_measure_32 : decode cX5_measure 32 = .ok (.iaload, 1) := by decide +kernel
theorem dX5_measure_33 : decode cX5_measure 33 = .ok (.ireturn, 1) := by decide +kernel
theorem dX5_measure_34 : decode cX5_measure 34 = .ok (.aload_n 1, 1) := by decide +kernel
theorem dX5_measure_35 : decode cX5_measure 35 = .ok (.getstatic 121, 3) := by decide +kernel
theorem dX5_measure_38 : decode cX5_measure 38 = .ok (.if_acmp .ne 5, 3) := by decide +kernel
theorem dX5_measure_41 : decode cX5_measure 41 = .ok (.iload_n 2, 1) := by decide +kernel
theorem dX5_measure_42 : decode cX5_measure 42 = .ok (.ireturn, 1) := by decide +kernel
theorem dX5_measure_43 : decode cX5_measure 43 = .ok (.aload_n 0, 1) := by decide +kernel
theorem dX5_measure_44 : decode cX5_measure 44 = .ok (.getfield 60, 3) := by decide +kernel
theorem dX5_measure_47 : decode cX5_measure 47 = .ok (.getfield 124, 3) := by decide +kernel
theorem dX5_measure_50 : decode cX5_measure 50 = .ok (.istore_n 3, 1) := by decide +kernel
theorem dX5_measure_51 : decode cX5_measure 51 = .ok (.iload_n 3, 1) := by decide +kernel
theorem dX5_measure_52 : decode cX5_measure 52 = .ok (.iconst (-1), 1) := by decide +kernel
theorem dX5_measure_53 : decode cX5_measure 53 = .ok (.if_icmp .ne 7, 3) := by decide +kernel
theorem dX5_measure_56 : decode cX5_measure 56 = .ok (.iconst 0, 1) := by decide +kernel
theorem dX5_measure_57 : decode cX5_measure 57 = .ok (.goto 12, 3) := by decide +kernel
theorem dX5_measure_60 : decode cX5_measure 60 = .ok (.aload_n 0, 1) := by decide +kernel
theorem dX5_measure_61 : decode cX5_measure 61 = .ok (.iload_n 2, 1) := by decide +kernel
theorem dX5_measure_62 : decode cX5_measure 62 = .ok (.iload_n 3, 1) := by decide +kernel
theorem dX5_measure_63 : decode cX5_measure 63 = .ok (.invokevirtual 98, 3) := by decide +kernel
theorem dX5_measure_66 : decode cX5_measure 66 = .ok (.invokestatic 127, 3) := by decide +kernel
theorem dX5_measure_69 : decode cX5_measure 69 = .ok (.ireturn, 1) := by decide +kernel
theorem dX6_init_0 : decode cX6_init 0 = .ok (.aload_n 0, 1) := by decide +kernel
theorem dX6_init_1 : decode cX6_init 1 = .ok (.aload_n 1, 1) := by decide +kernel
theorem dX6_init_2 : decode cX6_init 2 = .ok (.invokespecial 3, 3) := by decide +kernel
theorem dX6_init_5 : decode cX6_init 5 = .ok (.aload_n 0, 1) := by decide +kernel
theorem dX6_init_6 : decode cX6_init 6 = .ok (.new 9, 3) := by decide +kernel
theorem dX6_init_9 : decode cX6_init 9 = .ok (.dup, 1) := by decide +kernel
theorem dX6_init_10 : decode cX6_init 10 = .ok (.invokespecial 11, 3) := by decide +kernel
theorem dX6_init_13 : decode cX6_init 13 = .ok (.putfield 14, 3) := by decide +kernel
theorem dX6_init_16 : decode cX6_init 16 = .ok (.return_, 1) := by decide +kernel
theorem dX6_read_0 : decode cX6_read 0 = .ok (.aload_n 0, 1) := by decide +kernel
theorem dX6_read_1 : decode cX6_read 1 = .ok (.aload_n 1, 1) := by decide +kernel
theorem dX6_read_2 : decode cX6_read 2 = .ok (.putfield 20, 3) := by decide +kernel
theorem dX6_read_5 : decode cX6_read 5 = .ok (.aload_n 0, 1) := by decide +kernel
theorem dX6_read_6 : decode cX6_read 6 = .ok (.getfield 14, 3) := by decide +kernel
theorem dX6_read_9 : decode cX6_read 9 = .ok (.iconst 0, 1) := by decide +kernel
theorem dX6_read_10 : decode cX6_read 10 = .ok (.putfield 24, 3) := by decide +kernel
theorem dX6_read_13 : decode cX6_read 13 = .ok (.aload_n 0, 1) := by decide +kernel
theorem dX6_read_14 : decode cX6_read 14 = .ok (.iconst 0, 1) := by decide +kernel
theorem dX6_read_15 : decode cX6_read 15 = .ok (.putfield 28, 3) := by decide +kernel
theorem dX6_read_18 : decode cX6_read 18 = .ok (.aload_n 0, 1) := by decide +kernel
theorem dX6_read_19 : decode cX6_read 19 = .ok (.sipush 200, 3) := by decide +kernel
theorem dX6_read_22 : decode cX6_read 22 = .ok (.invokevirtual 31, 3) := by decide +kernel
theorem dX6_read_25 : decode cX6_read 25 = .ok (.aload_n 0, 1) := by decide +kernel
theorem dX6_read_26 : decode cX6_read 26 = .ok (.iconst 1, 1) := by decide +kernel
theorem dX6_read_27 : decode cX6_read 27 = .ok (.invokevirtual 35, 3) := by decide +kernel
theorem dX6_read_30 : decode cX6_read 30 = .ok (.ifCond .ne 5, 3) := by decide +kernel
theorem dX6_read_33 : decode cX6_read 33 = .ok (.iconst 0, 1) := by decide +kernel
theorem dX6_read_34 : decode cX6_read 34 = .ok (.ireturn, 1) := by decide +kernel
theorem dX6_read_35 : decode cX6_read 35 = .ok (.aload_n 0, 1) := by decide +kernel
theorem dX6_read_36 : decode cX6_read 36 = .ok (.getfield 39, 3) := by decide +kernel
theorem dX6_read_39 : decode cX6_read 39 = .ok (.getfield 43, 3) := by decide +kernel
theorem dX6_read_42 : decode cX6_read 42 = .ok (.ifCond .eq 11, 3) := by decide +kernel
theorem dX6_read_45 : decode cX6_read 45 = .ok (.aload_n 0, 1) := by decide +kernel
theorem dX6_read_46 : decode cX6_read 46 = .ok (.iconst 1, 1) := by decide +kernel
theorem dX6_read_47 : decode cX6_read 47 = .ok (.invokevirtual 48, 3) := by decide +kernel
theorem dX6_read_50 : decode cX6_read 50 = .ok (.ifCond .eq 7, 3) := by decide +kernel
theorem dX6_read_53 : decode cX6_read 53 = .ok (.iconst 1, 1) := by decide +kernel
theorem dX6_read_54 : decode cX6_read 54 = .ok (.goto 4, 3) := by decide +kernel
theorem dX6_read_57 : decode cX6_read 57 = .ok (.iconst 0, 1) := by decide +kernel
theorem dX6_read_58 : decode cX6_read 58 = .ok (.ireturn, 1) := by decide +kernel
theorem dX6_readCond_0 : decode cX6_readCond 0 = .ok (.aload_n 0, 1) := by decide +kernel
theorem dX6_readCond_1 : decode cX6_readCond 1 = .ok (.iload_n 1, 1) := by decide +kernel
theorem dX6_readCond_2 : decode cX6_readCond 2 = .ok (.invokevirtual 51, 3) := by decide +kernel
theorem dX6_readCond_5 : decode cX6_readCond 5 = .ok (.ifCond .ne 5, 3) := by decide +kernel
theorem dX6_readCond_8 : decode cX6_readCond 8 = .ok (.iconst 0, 1) := by decide +kernel
theorem dX6_readCond_9 : decode cX6_readCond 9 = .ok (.ireturn, 1) := by decide +kernel
theorem dX6_readCond_10 : decode cX6_readCond 10 = .ok (.iconst 0, 1) := by decide +kernel
theorem dX6_readCond_11 : decode cX6_readCond 11 = .ok (.istore_n 2, 1) := by decide +kernel
theorem dX6_readCond_12 : decode cX6_readCond 12 = .ok (.iload_n 2, 1) := by decide +kernel
theorem dX6_readCond_13 : decode cX6_readCond 13 = .ok (.bipush 20, 2) := by decide +kernel
theorem dX6_readCond_15 : decode cX6_readCond 15 = .ok (.if_icmp .gt 51, 3) := by decide +kernel
theorem dX6_readCond_18 : decode cX6_readCond 18 = .ok (.aload_n 0, 1) := by decide +kernel
theorem dX6_readCond_19 : decode cX6_readCond 19 = .ok (.getfield 39, 3) := by decide +kernel
theorem dX6_readCond_22 : decode cX6_readCond 22 = .ok (.getstatic 54, 3) := by decide +kernel
theorem dX6_readCond_25 : decode cX6_readCond 25 = .ok (.invokevirtual 60, 3) := by decide +kernel
theorem dX6_readCond_28 : decode cX6_readCond 28 = .ok (.ifCond .eq 38, 3) := by decide +kernel
theorem dX6_readCond_31 : decode cX6_readCond 31 = .ok (.aload_n 0, 1) := by decide +kernel
theorem dX6_readCond_32 : decode cX6_readCond 32 = .ok (.getfield 39, 3) := by decide +kernel
theorem dX6_readCond_35 : decode cX6_readCond 35 = .ok (.invokevirtual 64, 3) := by decide +kernel
theorem dX6_readCond_38 : decode cX6_readCond 38 = .ok (.aload_n 0, 1) := by decide +kernel
theorem dX6_readCond_39 : decode cX6_readCond 39 = .ok (.iload_n 1, 1) := by decide +kernel
theorem dX6_readCond_40 : decode cX6_readCond 40 = .ok (.invokevirtual 51, 3) := by decide +kernel
theorem dX6_readCond_43 : decode cX6_readCond 43 = .ok (.ifCond .ne 5, 3) := by decide +kernel
theorem dX6_readCond_46 : decode cX6_readCond 46 = .ok (.iconst 0, 1) := by decide +kernel
theorem dX6_readCond_47 : decode cX6_readCond 47 = .ok (.ireturn, 1) := by decide +kernel
theorem dX6_readCond_48 : decode cX6_readCond 48 = .ok (.aload_n 0, 1) := by decide +kernel
theorem dX6_readCond_49 : decode cX6_readCond 49 = .ok (.getfield 14, 3) := by decide +kernel
theorem dX6_readCond_52 : decode cX6_readCond 52 = .ok (.getstatic 54, 3) := by decide +kernel
theorem dX6_readCond_55 : decode cX6_readCond 55 = .ok (.iconst 0, 1) := by decide +kernel
theorem dX6_readCond_56 : decode cX6_readCond 56 = .ok (.iconst 0, 1) := by decide +kernel
theorem dX6_readCond_57 : decode cX6_readCond 57 = .ok (.invokevirtual 67, 3) := by decide +kernel
theorem dX6_readCond_60 : decode cX6_readCond 60 = .ok (.iinc 2 1, 3) := by decide +kernel
theorem dX6_readCond_63 : decode cX6_readCond 63 = .ok (.goto (-51), 3) := by decide +kernel
theorem dX6_readCond_66 : decode cX6_readCond 66 = .ok (.iconst 1, 1) := by decide +kernel
theorem dX6_readCond_67 : decode cX6_readCond 67 = .ok (.ireturn, 1) := by decide +kernel
theorem dX6_readAll_0 : decode cX6_readAll 0 = .ok (.aload_n 0, 1) := by decide +kernel
theorem dX6_readAll_1 : decode cX6_readAll 1 = .ok (.iload_n 1, 1) := by decide +kernel
theorem dX6_readAll_2 : decode cX6_readAll 2 = .ok (.invokevirtual 71, 3) := by decide +kernel
theorem dX6_readAll_5 : decode cX6_readAll 5 = .ok (.ifCond .ne 5, 3) := by decide +kernel
theorem dX6_readAll_8 : decode cX6_readAll 8 = .ok (.iconst 0, 1) := by decide +kernel
theorem dX6_readAll_9 : decode cX6_readAll 9 = .ok (.ireturn, 1) := by decide +kernel
theorem dX6_readAll_10 : decode cX6_readAll 10 = .ok (.iconst 0, 1) := by decide +kernel
theorem dX6_readAll_11 : decode cX6_readAll 11 = .ok (.istore_n 2, 1) := by decide +kernel
theorem dX6_readAll_12 : decode cX6_readAll 12 = .ok (.iload_n 2, 1) := by decide +kernel
theorem dX6_readAll_13 : decode cX6_readAll 13 = .ok (.bipush 20, 2) := by decide +kernel
theorem dX6_readAll_15 : decode cX6_readAll 15 = .ok (.if_icmp .gt 51, 3) := by decide +kernel
theorem dX6_readAll_18 : decode cX6_readAll 18 = .ok (.aload_n 0, 1) := by decide +kernel
theorem dX6_readAll_19 : decode cX6_readAll 19 = .ok (.getfield 39, 3) := by decide +kernel
theorem dX6_readAll_22 : decode cX6_readAll 22 = .ok (.getstatic 74, 3) := by decide +kernel
theorem dX6_readAll_25 : decode cX6_readAll 25 = .ok (.invokevirtual 60, 3) := by decide +kernel
theorem dX6_readAll_28 : decode cX6_readAll 28 = .ok (.ifCond .eq 38, 3) := by decide +kernel
theorem dX6_readAll_31 : decode cX6_readAll 31 = .ok (.aload_n 0, 1) := by decide +kernel
theorem dX6_readAll_32 : decode cX6_readAll 32 = .ok (.getfield 39, 3) := by decide +kernel
theorem dX6_readAll_35 : decode cX6_readAll 35 = .ok (.invokevirtual 64, 3) := by decide +kernel
theorem dX6_readAll_38 : decode cX6_readAll 38 = .ok (.aload_n 0, 1) := by decide +kernel
theorem dX6_readAll_39 : decode cX6_readAll 39 = .ok (.iload_n 1, 1) := by decide +kernel
theorem dX6_readAll_40 : decode cX6_readAll 40 = .ok (.invokevirtual 71, 3) := by decide +kernel
theorem dX6_readAll_43 : decode cX6_readAll 43 = .ok (.ifCond .ne 5, 3) := by decide +kernel
theorem dX6_readAll_46 : decode cX6_readAll 46 = .ok (.iconst 0, 1) := by decide +kernel
theorem dX6_readAll_47 : decode cX6_readAll 47 = .ok (.ireturn, 1) := by decide +kernel
theorem dX6_readAll_48 : decode cX6_readAll 48 = .ok (.aload_n 0, 1) := by decide +kernel
theorem dX6_readAll_49 : decode cX6_readAll 49 = .ok (.getfield 14, 3) := by decide +kernel
theorem dX6_readAll_52 : decode cX6_readAll 52 = .ok (.getstatic 74, 3) := by decide +kernel
theorem dX6_readAll_55 : decode cX6_readAll 55 = .ok (.iconst 0, 1) := by decide +kernel
theorem dX6_readAll_56 : decode cX6_readAll 56 = .ok (.iconst 0, 1) := by decide +kernel
theorem dX6_readAll_57 : decode cX6_readAll 57 = .ok (.invokevirtual 67, 3) := by decide +kernel
theorem dX6_readAll_60 : decode cX6_readAll 60 = .ok (.iinc 2 1, 3) := by decide +kernel
theorem dX6_readAll_63 : decode cX6_readAll 63 = .ok (.goto (-51), 3) := by decide +kernel
theorem dX6_readAll_66 : decode cX6_readAll 66 = .ok (.iconst 1, 1) := by decide +kernel
theorem dX6_readAll_67 : decode cX6_readAll 67 = .ok (.ireturn, 1) := by decide +kernel
theorem dX6_readOne_0 : decode cX6_readOne 0 = .ok (.aload_n 0, 1) := by decide +kernel
theorem dX6_readOne_1 : decode cX6_readOne 1 = .ok (.invokevirtual 77, 3) := by decide +kernel
theorem dX6_readOne_4 : decode cX6_readOne 4 = .ok (.astore_n 2, 1) := by decide +kernel
theorem dX6_readOne_5 : decode cX6_readOne 5 = .ok (.aload_n 2, 1) := by decide +kernel
theorem dX6_readOne_6 : decode cX6_readOne 6 = .ok (.ifnonnull 21, 3) := by decide +kernel
theorem dX6_readOne_9 : decode cX6_readOne 9 = .ok (.aload_n 0, 1) := by decide +kernel
theorem dX6_readOne_10 : decode cX6_readOne 10 = .ok (.getfield 39, 3) := by decide +kernel
theorem dX6_readOne_13 : decode cX6_readOne 13 = .ok (.bipush 40, 2) := by decide +kernel
theorem dX6_readOne_15 : decode cX6_readOne 15 = .ok (.invokevirtual 81, 3) := by decide +kernel
theorem dX6_readOne_18 : decode cX6_readOne 18 = .ok (.ifCond .ne 9, 3) := by decide +kernel
theorem dX6_readOne_21 : decode cX6_readOne 21 = .ok (.aload_n 0, 1) := by decide +kernel
theorem dX6_readOne_22 : decode cX6_readOne 22 = .ok (.iconst 1, 1) := by decide +kernel
theorem dX6_readOne_23 : decode cX6_readOne 23 = .ok (.invokevirtual 48, 3) := by decide +kernel
theorem dX6_readOne_26 : decode cX6_readOne 26 = .ok (.ireturn, 1) := by decide +kernel
theorem dX6_readOne_27 : decode cX6_readOne 27 = .ok (.aload_n 0, 1) := by decide +kernel
theorem dX6_readOne_28 : decode cX6_readOne 28 = .ok (.getfield 28, 3) := by decide +kernel
theorem dX6_readOne_31 : decode cX6_readOne 31 = .ok (.bipush 20, 2) := by decide +kernel
theorem dX6_readOne_33 : decode cX6_readOne 33 = .ok (.if_icmp .ge 9, 3) := by decide +kernel
theorem dX6_readOne_36 : decode cX6_readOne 36 = .ok (.iload_n 1, 1) := by decide +kernel
theorem dX6_readOne_37 : decode cX6_readOne 37 = .ok (.bipush 8, 2) := by decide +kernel
theorem dX6_readOne_39 : decode cX6_readOne 39 = .ok (.if_icmp .le 9, 3) := by decide +kernel
theorem dX6_readOne_42 : decode cX6_readOne 42 = .ok (.aload_n 0, 1) := by decide +kernel
theorem dX6_readOne_43 : decode cX6_readOne 43 = .ok (.iconst 4, 1) := by decide +kernel
theorem dX6_readOne_44 : decode cX6_readOne 44 = .ok (.invokevirtual 48, 3) := by decide +kernel
theorem dX6_readOne_47 : decode cX6_readOne 47 = .ok (.ireturn, 1) := by decide +kernel
theorem dX6_readOne_48 : decode cX6_readOne 48 = .ok (.aload_n 0, 1) := by decide +kernel
theorem dX6_readOne_49 : decode cX6_readOne 49 = .ok (.dup, 1) := by decide +kernel
theorem dX6_readOne_50 : decode cX6_readOne 50 = .ok (.getfield 28, 3) := by decide +kernel
theorem dX6_readOne_53 : decode cX6_readOne 53 = .ok (.iconst 1, 1) := by decide +kernel
theorem dX6_readOne_54 : decode cX6_readOne 54 = .ok (.iadd, 1) := by decide +kernel
theorem dX6_readOne_55 : decode cX6_readOne 55 = .ok (.putfield 28, 3) := by decide +kernel
theorem dX6_readOne_58 : decode cX6_readOne 58 = .ok (.aload_n 0, 1) := by decide +kernel
theorem dX6_readOne_59 : decode cX6_readOne 59 = .ok (.getfield 39, 3) := by decide +kernel
theorem dX6_readOne_62 : decode cX6_readOne 62 = .ok (.invokevirtual 64, 3) := by decide +kernel
theorem dX6_readOne_65 : decode cX6_readOne 65 = .ok (.aload_n 2, 1) := by decide +kernel
theorem dX6_readOne_66 : decode cX6_readOne 66 = .ok (.ifnonnull 28, 3) := by decide +kernel
theorem dX6_readOne_69 : decode cX6_readOne 69 = .ok (.aload_n 0, 1) := by decide +kernel
theorem dX6_readOne_70 : decode cX6_readOne 70 = .ok (.iload_n 1, 1) := by decide +kernel
theorem dX6_readOne_71 : decode cX6_readOne 71 = .ok (.iconst 1, 1) := by decide +kernel
theorem dX6_readOne_72 : decode cX6_readOne 72 = .ok (.iadd, 1) := by decide +kernel
theorem dX6_readOne_73 : decode cX6_readOne 73 = .ok (.invokevirtual 35, 3) := by decide +kernel
theorem dX6_readOne_76 : decode cX6_readOne 76 = .ok (.ifCond .eq 16, 3) := by decide +kernel
theorem dX6_readOne_79 : decode cX6_readOne 79 = .ok (.aload_n 0, 1) := by decide +kernel
theorem dX6_readOne_80 : decode cX6_readOne 80 = .ok (.bipush 41, 2) := by decide +kernel
theorem dX6_readOne_82 : decode cX6_readOne 82 = .ok (.invokevirtual 85, 3) := by decide +kernel
theorem dX6_readOne_85 : decode cX6_readOne 85 = .ok (.ifCond .eq 7, 3) := by decide +kernel
theorem dX6_readOne_88 : decode cX6_readOne 88 = .ok (.iconst 1, 1) := by decide +kernel
theorem dX6_readOne_89 : decode cX6_readOne 89 = .ok (.goto 4, 3) := by decide +kernel
theorem dX6_readOne_92 : decode cX6_readOne 92 = .ok (.iconst 0, 1) := by decide +kernel
theorem dX6_readOne_93 : decode cX6_readOne 93 = .ok (.ireturn, 1) := by decide +kernel
theorem dX6_readOne_94 : decode cX6_readOne 94 = .ok (.aload_n 2, 1) := by decide +kernel
theorem dX6_readOne_95 : decode cX6_readOne 95 = .ok (.getstatic 88, 3) := by decide +kernel
theorem dX6_readOne_98 : decode cX6_readOne 98 = .ok (.if_acmp .ne 29, 3) := by decide +kernel
theorem dX6_readOne_101 : decode cX6_readOne 101 = .ok (.aload_n 0, 1) := by decide +kernel
theorem dX6_readOne_102 : decode cX6_readOne 102 = .ok (.iload_n 1, 1) := by decide +kernel
theorem dX6_readOne_103 : decode cX6_readOne 103 = .ok (.iconst 1, 1) := by decide +kernel
theorem dX6_readOne_104 : decode cX6_readOne 104 = .ok (.iadd, 1) := by decide +kernel
theorem dX6_readOne_105 : decode cX6_readOne 105 = .ok (.invokevirtual 71, 3) := by decide +kernel
theorem dX6_readOne_108 : decode cX6_readOne 108 = .ok (.ifCond .ne 5, 3) := by decide +kernel
theorem dX6_readOne_111 : decode cX6_readOne 111 = .ok (.iconst 0, 1) := by decide +kernel
theorem dX6_readOne_112 : decode cX6_readOne 112 = .ok (.ireturn, 1) := by decide +kernel
theorem dX6_readOne_113 : decode cX6_readOne 113 = .ok (.aload_n 0, 1) := by decide +kernel
theorem dX6_readOne_114 : decode cX6_readOne 114 = .ok (.getfield 14, 3) := by decide +kernel
theorem dX6_readOne_117 : decode cX6_readOne 117 = .ok (.getstatic 88, 3) := by decide +kernel
theorem dX6_readOne_120 : decode cX6_readOne 120 = .ok (.iconst 0, 1) := by decide +kernel
theorem dX6_readOne_121 : decode cX6_readOne 121 = .ok (.iconst 0, 1) := by decide +kernel
theorem dX6_readOne_122 : decode cX6_readOne 122 = .ok (.invokevirtual 67, 3) := by decide +kernel
theorem dX6_readOne_125 : decode cX6_readOne 125 = .ok (.iconst 1, 1) := by decide +kernel
theorem dX6_readOne_126 : decode cX6_readOne 126 = .ok (.ireturn, 1) := by decide +kernel
theorem dX6_readOne_127 : decode cX6_readOne 127 = .ok (.aload_n 0, 1) := by decide +kernel
theorem dX6_readOne_128 : decode cX6_readOne 128 = .ok (.aload_n 2, 1) := by decide +kernel
theorem dX6_readOne_129 : decode cX6_readOne 129 = .ok (.invokevirtual 91, 3) := by decide +kernel
theorem dX6_readOne_132 : decode cX6_readOne 132 = .ok (.ireturn, 1) := by decide +kernel
theorem dX6_firstWord_0 : decode cX6_firstWord 0 = .ok (.aload_n 0, 1) := by decide +kernel
theorem dX6_firstWord_1 : decode cX6_firstWord 1 = .ok (.getfield 39, 3) := by decide +kernel
theorem dX6_firstWord_4 : decode cX6_firstWord 4 = .ok (.getstatic 88, 3) := by decide +kernel
theorem dX6_firstWord_7 : decode cX6_firstWord 7 = .ok (.invokevirtual 60, 3) := by decide +kernel
theorem dX6_firstWord_10 : decode cX6_firstWord 10 = .ok (.ifCond .eq 7, 3) := by decide +kernel
theorem dX6_firstWord_13 : decode cX6_firstWord 13 = .ok (.getstatic 88, 3) := by decide +kernel
theorem dX6_firstWord_16 : decode cX6_firstWord 16 = .ok (.areturn, 1) := by decide +kernel
theorem dX6_firstWord_17 : decode cX6_firstWord 17 = .ok (.aload_n 0, 1) := by decide +kernel
theorem dX6_firstWord_18 : decode cX6_firstWord 18 = .ok (.getfield 39, 3) := by decide +kernel
theorem dX6_firstWord_21 : decode cX6_firstWord 21 = .ok (.getstatic 94, 3) := by decide +kernel
theorem dX6_firstWord_24 : decode cX6_firstWord 24 = .ok (.invokevirtual 60, 3) := by decide +kernel
theorem dX6_firstWord_27 : decode cX6_firstWord 27 = .ok (.ifCond .eq 7, 3) := by decide +kernel
theorem dX6_firstWord_30 : decode cX6_firstWord 30 = .ok (.getstatic 94, 3) := by decide +kernel
theorem dX6_firstWord_33 : decode cX6_firstWord 33 = .ok (.areturn, 1) := by decide +kernel
theorem dX6_firstWord_34 : decode cX6_firstWord 34 = .ok (.aload_n 0, 1) := by decide +kernel
theorem dX6_firstWord_35 : decode cX6_firstWord 35 = .ok (.getfield 39, 3) := by decide +kernel
theorem dX6_firstWord_38 : decode cX6_firstWord 38 = .ok (.getstatic 97, 3) := by decide +kernel
theorem dX6_firstWord_41 : decode cX6_firstWord 41 = .ok (.invokevirtual 60, 3) := by decide +kernel
theorem dX6_firstWord_44 : decode cX6_firstWord 44 = .ok (.ifCond .eq 7, 3) := by decide +kernel
theorem dX6_firstWord_47 : decode cX6_firstWord 47 = .ok (.getstatic 97, 3) := by decide +kernel
theorem dX6_firstWord_50 : decode cX6_firstWord 50 = .ok (.areturn, 1) := by decide +kernel
theorem dX6_firstWord_51 : decode cX6_firstWord 51 = .ok (.aload_n 0, 1) := by decide +kernel
theorem dX6_firstWord_52 : decode cX6_firstWord 52 = .ok (.getfield 39, 3) := by decide +kernel
theorem dX6_firstWord_55 : decode cX6_firstWord 55 = .ok (.getstatic 100, 3) := by decide +kernel
theorem dX6_firstWord_58 : decode cX6_firstWord 58 = .ok (.invokevirtual 60, 3) := by decide +kernel
theorem dX6_firstWord_61 : decode cX6_firstWord 61 = .ok (.ifCond .eq 7, 3) := by decide +kernel
theorem dX6_firstWord_64 : decode cX6_firstWord 64 = .ok (.getstatic 100, 3) := by decide +kernel
theorem dX6_firstWord_67 : decode cX6_firstWord 67 = .ok (.areturn, 1) := by decide +kernel
theorem dX6_firstWord_68 : decode cX6_firstWord 68 = .ok (.aload_n 0, 1) := by decide +kernel
theorem dX6_firstWord_69 : decode cX6_firstWord 69 = .ok (.getfield 39, 3) := by decide +kernel
theorem dX6_firstWord_72 : decode cX6_firstWord 72 = .ok (.getstatic 103, 3) := by decide +kernel
theorem dX6_firstWord_75 : decode cX6_firstWord 75 = .ok (.invokevirtual 60, 3) := by decide +kernel
theorem dX6_firstWord_78 : decode cX6_firstWord 78 = .ok (.ifCond .eq 7, 3) := by decide +kernel
theorem dX6_firstWord_81 : decode cX6_firstWord 81 = .ok (.getstatic 103, 3) := by decide +kernel
theorem dX6_firstWord_84 : decode cX6_firstWord 84 = .ok (.areturn, 1) := by decide +kernel
theorem dX6_firstWord_85 : decode cX6_firstWord 85 = .ok (.aload_n 0, 1) := by decide +kernel
theorem dX6_firstWord_86 : decode cX6_firstWord 86 = .ok (.getfield 39, 3) := by decide +kernel
theorem dX6_firstWord_89 : decode cX6_firstWord 89 = .ok (.getstatic 106, 3) := by decide +kernel
theorem dX6_firstWord_92 : decode cX6_firstWord 92 = .ok (.invokevirtual 60, 3) := by decide +kernel
theorem dX6_firstWord_95 : decode cX6_firstWord 95 = .ok (.ifCond .eq 7, 3) := by decide +kernel
theorem dX6_firstWord_98 : decode cX6_firstWord 98 = .ok (.getstatic 106, 3) := by decide +kernel
theorem dX6_firstWord_101 : decode cX6_firstWord 101 = .ok (.areturn, 1) := by decide +kernel
theorem dX6_firstWord_102 : decode cX6_firstWord 102 = .ok (.aload_n 0, 1) := by decide +kernel
theorem dX6_firstWord_103 : decode cX6_firstWord 103 = .ok (.getfield 39, 3) := by decide +kernel
theorem dX6_firstWord_106 : decode cX6_firstWord 106 = .ok (.getstatic 109, 3) := by decide +kernel
theorem dX6_firstWord_109 : decode cX6_firstWord 109 = .ok (.invokevirtual 60, 3) := by decide +kernel
theorem dX6_firstWord_112 : decode cX6_firstWord 112 = .ok (.ifCond .eq 9, 3) := by decide +kernel
theorem dX6_firstWord_115 : decode cX6_firstWord 115 = .ok (.getstatic 109, 3) := by decide +kernel
theorem dX6_firstWord_118 : decode cX6_firstWord 118 = .ok (.goto 7, 3) := by decide +kernel
theorem dX6_firstWord_121 : decode cX6_firstWord 121 = .ok (.aload_n 0, 1) := by decide +kernel
theorem dX6_firstWord_122 : decode cX6_firstWord 122 = .ok (.invokevirtual 112, 3) := by decide +kernel
theorem dX6_firstWord_125 : decode cX6_firstWord 125 = .ok (.areturn, 1) := by decide +kernel
theorem dX6_firstMeasure_0 : decode cX6_firstMeasure 0 = .ok (.aload_n 0, 1) := by decide +kernel
theorem dX6_firstMeasure_1 : decode cX6_firstMeasure 1 = .ok (.getfield 39, 3) := by decide +kernel
theorem dX6_firstMeasure_4 : decode cX6_firstMeasure 4 = .ok (.getstatic 115, 3) := by decide +kernel
theorem dX6_firstMeasure_7 : decode cX6_firstMeasure 7 = .ok (.invokevirtual 60, 3) := by decide +kernel
theorem dX6_firstMeasure_10 : decode cX6_firstMeasure 10 = .ok (.ifCond .eq 7, 3) := by decide +kernel
theorem dX6_firstMeasure_13 : decode cX6_firstMeasure 13 = .ok (.getstatic 115, 3) := by decide +kernel
theorem dX6_firstMeasure_16 : decode cX6_firstMeasure 16 = .ok (.areturn, 1) := by decide +kernel
theorem dX6_firstMeasure_17 : decode cX6_firstMeasure 17 = .ok (.aload_n 0, 1) := by decide +kernel
theorem dX6_firstMeasure_18 : decode cX6_firstMeasure 18 = .ok (.getfield 39, 3) := by decide +kernel
theorem dX6_firstMeasure_21 : decode cX6_firstMeasure 21 = .ok (.getstatic 118, 3) := by decide +kernel
theorem dX6_firstMeasure_24 : decode cX6_firstMeasure 24 = .ok (.invokevirtual 60, 3) := by decide +kernel
theorem dX6_firstMeasure_27 : decode cX6_firstMeasure 27 = .ok (.ifCond .eq 7, 3) := by decide +kernel
theorem dX6_firstMeasure_30 : decode cX6_firstMeasure 30 = .ok (.getstatic 118, 3) := by decide +kernel
theorem dX6_firstMeasure_33 : decode cX6_firstMeasure 33 = .ok (.areturn, 1) := by decide +kernel
theorem dX6_firstMeasure_34 : decode cX6_firstMeasure 34 = .ok (.aload_n 0, 1) := by decide +kernel
theorem dX6_firstMeasure_35 : decode cX6_firstMeasure 35 = .ok (.getfield 39, 3) := by decide +kernel
theorem dX6_firstMeasure_38 : decode cX6_firstMeasure 38 = .ok (.getstatic 121, 3) := by decide +kernel
theorem dX6_firstMeasure_41 : decode cX6_firstMeasure 41 = .ok (.invokevirtual 60, 3) := by decide +kernel
theorem dX6_firstMeasure_44 : decode cX6_firstMeasure 44 = .ok (.ifCond .eq 7, 3) := by decide +kernel
theorem dX6_firstMeasure_47 : decode cX6_firstMeasure 47 = .ok (.getstatic 121, 3) := by decide +kernel
theorem dX6_firstMeasure_50 : decode cX6_firstMeasure 50 = .ok (.areturn, 1) := by decide +kernel
theorem dX6_firstMeasure_51 : decode cX6_firstMeasure 51 = .ok (.aload_n 0, 1) := by decide +kernel
theorem dX6_firstMeasure_52 : decode cX6_firstMeasure 52 = .ok (.getfield 39, 3) := by decide +kernel
theorem dX6_firstMeasure_55 : decode cX6_firstMeasure 55 = .ok (.getstatic 124, 3) := by decide +kernel
theorem dX6_firstMeasure_58 : decode cX6_firstMeasure 58 = .ok (.invokevirtual 60, 3) := by decide +kernel
theorem dX6_firstMeasure_61 : decode cX6_firstMeasure 61 = .ok (.ifCond .eq 9, 3) := by decide +kernel
theorem dX6_firstMeasure_64 : decode cX6_firstMeasure 64 = .ok (.getstatic 124, 3) := by decide +kernel
theorem dX6_firstMeasure_67 : decode cX6_firstMeasure 67 = .ok (.goto 4, 3) := by decide +kernel
theorem dX6_firstMeasure_70 : decode cX6_firstMeasure 70 = .ok (.aconst_null, 1) := by decide +kernel
theorem dX6_firstMeasure_71 : decode cX6_firstMeasure 71 = .ok (.areturn, 1) := by decide +kernel
theorem dX6_readPlainOne_0 : decode cX6_readPlainOne 0 = .ok (.iconst 0, 1) := by decide +kernel
theorem dX6_readPlainOne_1 : decode cX6_readPlainOne 1 = .ok (.istore_n 2, 1) := by decide +kernel
theorem dX6_readPlainOne_2 : decode cX6_readPlainOne 2 = .ok (.aload_n 0, 1) := by decide +kernel
theorem dX6_readPlainOne_3 : decode cX6_readPlainOne 3 = .ok (.iconst 0, 1) := by decide +kernel
theorem dX6_readPlainOne_4 : decode cX6_readPlainOne 4 = .ok (.putfield 127, 3) := by decide +kernel
theorem dX6_readPlainOne_7 : decode cX6_readPlainOne 7 = .ok (.aload_n 1, 1) := by decide +kernel
theorem dX6_readPlainOne_8 : decode cX6_readPlainOne 8 = .ok (.getstatic 103, 3) := by decide +kernel
theorem dX6_readPlainOne_11 : decode cX6_readPlainOne 11 = .ok (.if_acmp .eq 17, 3) := by decide +kernel
theorem dX6_readPlainOne_14 : decode cX6_readPlainOne 14 = .ok (.aload_n 1, 1) := by decide +kernel
theorem dX6_readPlainOne_15 : decode cX6_readPlainOne 15 = .ok (.getstatic 106, 3) := by decide +kernel
theorem dX6_readPlainOne_18 : decode cX6_readPlainOne 18 = .ok (.if_acmp .eq 10, 3) := by decide +kernel
theorem dX6_readPlainOne_21 : decode cX6_readPlainOne 21 = .ok (.aload_n 1, 1) := by decide +kernel
theorem dX6_readPlainOne_22 : decode cX6_readPlainOne 22 = .ok (.getstatic 109, 3) := by decide +kernel
theorem dX6_readPlainOne_25 : decode cX6_readPlainOne 25 = .ok (.if_acmp .ne 46, 3) := by decide +kernel
theorem dX6_readPlainOne_28 : decode cX6_readPlainOne 28 = .ok (.aload_n 1, 1) := by decide +kernel
theorem dX6_readPlainOne_29 : decode cX6_readPlainOne 29 = .ok (.getstatic 103, 3) := by decide +kernel
theorem dX6_readPlainOne_32 : decode cX6_readPlainOne 32 = .ok (.if_acmp .ne 14, 3) := by decide +kernel
theorem dX6_readPlainOne_35 : decode cX6_readPlainOne 35 = .ok (.aload_n 0, 1) := by decide +kernel
theorem dX6_readPlainOne_36 : decode cX6_readPlainOne 36 = .ok (.aload_n 0, 1) := by decide +kernel
theorem dX6_readPlainOne_37 : decode cX6_readPlainOne 37 = .ok (.getfield 20, 3) := by decide +kernel
theorem dX6_readPlainOne_40 : decode cX6_readPlainOne 40 = .ok (.invokevirtual 130, 3) := by decide +kernel
theorem dX6_readPlainOne_43 : decode cX6_readPlainOne 43 = .ok (.goto 11, 3) := by decide +kernel
theorem dX6_readPlainOne_46 : decode cX6_readPlainOne 46 = .ok (.aload_n 0, 1) := by decide +kernel
theorem dX6_readPlainOne_47 : decode cX6_readPlainOne 47 = .ok (.aload_n 0, 1) := by decide +kernel
theorem dX6_readPlainOne_48 : decode cX6_readPlainOne 48 = .ok (.getfield 20, 3) := by decide +kernel
theorem dX6_readPlainOne_51 : decode cX6_readPlainOne 51 = .ok (.invokevirtual 134, 3) := by decide +kernel
theorem dX6_readPlainOne_54 : decode cX6_readPlainOne 54 = .ok (.istore_n 3, 1) := by decide +kernel
theorem dX6_readPlainOne_55 : decode cX6_readPlainOne 55 = .ok (.iload_n 3, 1) := by decide +kernel
theorem dX6_readPlainOne_56 : decode cX6_readPlainOne 56 = .ok (.ifCond .ne 5, 3) := by decide +kernel
theorem dX6_readPlainOne_59 : decode cX6_readPlainOne 59 = .ok (.iconst 0, 1) := by decide +kernel
theorem dX6_readPlainOne_60 : decode cX6_readPlainOne 60 = .ok (.ireturn, 1) := by decide +kernel
theorem dX6_readPlainOne_61 : decode cX6_readPlainOne 61 = .ok (.aload_n 0, 1) := by decide +kernel
theorem dX6_readPlainOne_62 : decode cX6_readPlainOne 62 = .ok (.getfield 39, 3) := by decide +kernel
theorem dX6_readPlainOne_65 : decode cX6_readPlainOne 65 = .ok (.invokevirtual 64, 3) := by decide +kernel
theorem dX6_readPlainOne_68 : decode cX6_readPlainOne 68 = .ok (.goto 93, 3) := by decide +kernel
theorem dX6_readPlainOne_71 : decode cX6_readPlainOne 71 = .ok (.aload_n 1, 1) := by decide +kernel
theorem dX6_readPlainOne_72 : decode cX6_readPlainOne 72 = .ok (.getstatic 94, 3) := by decide +kernel
theorem dX6_readPlainOne_75 : decode cX6_readPlainOne 75 = .ok (.if_acmp .eq 86, 3) := by decide +kernel
theorem dX6_readPlainOne_78 : decode cX6_readPlainOne 78 = .ok (.aload_n 1, 1) := by decide +kernel
theorem dX6_readPlainOne_79 : decode cX6_readPlainOne 79 = .ok (.getstatic 97, 3) := by decide +kernel
theorem dX6_readPlainOne_82 : decode cX6_readPlainOne 82 = .ok (.if_acmp .eq 79, 3) := by decide +kernel
theorem dX6_readPlainOne_85 : decode cX6_readPlainOne 85 = .ok (.aload_n 1, 1) := by decide +kernel
theorem dX6_readPlainOne_86 : decode cX6_readPlainOne 86 = .ok (.getstatic 100, 3) := by decide +kernel
theorem dX6_readPlainOne_89 : decode cX6_readPlainOne 89 = .ok (.if_acmp .eq 72, 3) := by decide +kernel
theorem dX6_readPlainOne_92 : decode cX6_readPlainOne 92 = .ok (.aload_n 0, 1) := by decide +kernel
theorem dX6_readPlainOne_93 : decode cX6_readPlainOne 93 = .ok (.getfield 39, 3) := by decide +kernel
theorem dX6_readPlainOne_96 : decode cX6_readPlainOne 96 = .ok (.bipush 60, 2) := by decide +kernel
theorem dX6_readPlainOne_98 : decode cX6_readPlainOne 98 = .ok (.invokevirtual 81, 3) := by decide +kernel
theorem dX6_readPlainOne_101 : decode cX6_readPlainOne 101 = .ok (.ifCond .ne 33, 3) := by decide +kernel
theorem dX6_readPlainOne_104 : decode cX6_readPlainOne 104 = .ok (.aload_n 0, 1) := by decide +kernel
theorem dX6_readPlainOne_105 : decode cX6_readPlainOne 105 = .ok (.getfield 39, 3) := by decide +kernel
theorem dX6_readPlainOne_108 : decode cX6_readPlainOne 108 = .ok (.bipush 61, 2) := by decide +kernel
theorem dX6_readPlainOne_110 : decode cX6_readPlainOne 110 = .ok (.invokevirtual 81, 3) := by decide +kernel
theorem dX6_readPlainOne_113 : decode cX6_readPlainOne 113 = .ok (.ifCond .ne 21, 3) := by decide +kernel
theorem dX6_readPlainOne_116 : decode cX6_readPlainOne 116 = .ok (.aload_n 0, 1) := by decide +kernel
theorem dX6_readPlainOne_117 : decode cX6_readPlainOne 117 = .ok (.getfield 39, 3) := by decide +kernel
theorem dX6_readPlainOne_120 : decode cX6_readPlainOne 120 = .ok (.bipush 62, 2) := by decide +kernel
theorem dX6_readPlainOne_122 : decode cX6_readPlainOne 122 = .ok (.invokevirtual 81, 3) := by decide +kernel
theorem dX6_readPlainOne_125 : decode cX6_readPlainOne 125 = .ok (.ifCond .ne 9, 3) := by decide +kernel
theorem dX6_readPlainOne_128 : decode cX6_readPlainOne 128 = .ok (.aload_n 0, 1) := by decide +kernel
theorem dX6_readPlainOne_129 : decode cX6_readPlainOne 129 = .ok (.iconst 1, 1) := by decide +kernel
theorem dX6_readPlainOne_130 : decode cX6_readPlainOne 130 = .ok (.invokevirtual 48, 3) := by decide +kernel
theorem dX6_readPlainOne_133 : decode cX6_readPlainOne 133 = .ok (.ireturn, 1) := by decide +kernel
theorem dX6_readPlainOne_134 : decode cX6_readPlainOne 134 = .ok (.aload_n 0, 1) := by decide +kernel
theorem dX6_readPlainOne_135 : decode cX6_readPlainOne 135 = .ok (.getfield 39, 3) := by decide +kernel
theorem dX6_readPlainOne_138 : decode cX6_readPlainOne 138 = .ok (.getfield 137, 3) := by decide +kernel
theorem dX6_readPlainOne_141 : decode cX6_readPlainOne 141 = .ok (.istore_n 2, 1) := by decide +kernel
theorem dX6_readPlainOne_142 : decode cX6_readPlainOne 142 = .ok (.aload_n 0, 1) := by decide +kernel
theorem dX6_readPlainOne_143 : decode cX6_readPlainOne 143 = .ok (.getfield 39, 3) := by decide +kernel
theorem dX6_readPlainOne_146 : decode cX6_readPlainOne 146 = .ok (.invokevirtual 64, 3) := by decide +kernel
theorem dX6_readPlainOne_149 : decode cX6_readPlainOne 149 = .ok (.aload_n 0, 1) := by decide +kernel
theorem dX6_readPlainOne_150 : decode cX6_readPlainOne 150 = .ok (.iconst 0, 1) := by decide +kernel
theorem dX6_readPlainOne_151 : decode cX6_readPlainOne 151 = .ok (.bipush 99, 2) := by decide +kernel
theorem dX6_readPlainOne_153 : decode cX6_readPlainOne 153 = .ok (.invokevirtual 140, 3) := by decide +kernel
theorem dX6_readPlainOne_156 : decode cX6_readPlainOne 156 = .ok (.ifCond .ne 5, 3) := by decide +kernel
theorem dX6_readPlainOne_159 : decode cX6_readPlainOne 159 = .ok (.iconst 0, 1) := by decide +kernel
theorem dX6_readPlainOne_160 : decode cX6_readPlainOne 160 = .ok (.ireturn, 1) := by decide +kernel
theorem dX6_readPlainOne_161 : decode cX6_readPlainOne 161 = .ok (.aload_n 0, 1) := by decide +kernel
theorem dX6_readPlainOne_162 : decode cX6_readPlainOne 162 = .ok (.getfield 14, 3) := by decide +kernel
theorem dX6_readPlainOne_165 : decode cX6_readPlainOne 165 = .ok (.aload_n 1, 1) := by decide +kernel
theorem dX6_readPlainOne_166 : decode cX6_readPlainOne 166 = .ok (.iload_n 2, 1) := by decide +kernel
theorem dX6_readPlainOne_167 : decode cX6_readPlainOne 167 = .ok (.aload_n 0, 1) := by decide +kernel
theorem dX6_readPlainOne_168 : decode cX6_readPlainOne 168 = .ok (.getfield 127, 3) := by decide +kernel
theorem dX6_readPlainOne_171 : decode cX6_readPlainOne 171 = .ok (.invokevirtual 67, 3) := by decide +kernel
theorem dX6_readPlainOne_174 : decode cX6_readPlainOne 174 = .ok (.iconst 1, 1) := by decide +kernel
theorem dX6_readPlainOne_175 : decode cX6_readPlainOne 175 = .ok (.ireturn, 1) := by decide +kernel
theorem dX7_init_0 : decode cX7_init 0 = .ok (.aload_n 0, 1) := by decide +kernel
theorem dX7_init_1 : decode cX7_init 1 = .ok (.invokespecial 3, 3) := by decide +kernel
theorem dX7_init_4 : decode cX7_init 4 = .ok (.aload_n 0, 1) := by decide +kernel
theorem dX7_init_5 : decode cX7_init 5 = .ok (.sipush 940, 3) := by decide +kernel
theorem dX7_init_8 : decode cX7_init 8 = .ok (.newarray .int, 2) := by decide +kernel
theorem dX7_init_10 : decode cX7_init 10 = .ok (.putfield 9, 3) := by decide +kernel
theorem dX7_init_13 : decode cX7_init 13 = .ok (.return_, 1) := by decide +kernel
theorem dX7_addNumber_0 : decode cX7_addNumber 0 = .ok (.aload_n 0, 1) := by decide +kernel
theorem dX7_addNumber_1 : decode cX7_addNumber 1 = .ok (.getfield 15, 3) := by decide +kernel
theorem dX7_addNumber_4 : decode cX7_addNumber 4 = .ok (.iconst 4, 1) := by decide +kernel
theorem dX7_addNumber_5 : decode cX7_addNumber 5 = .ok (.iadd, 1) := by decide +kernel
theorem dX7_addNumber_6 : decode cX7_addNumber 6 = .ok (.sipush 940, 3) := by decide +kernel
theorem dX7_addNumber_9 : decode cX7_addNumber 9 = .ok (.if_icmp .le 4, 3) := by decide +kernel
theorem dX7_addNumber_12 : decode cX7_addNumber 12 = .ok (.return_, 1) := by decide +kernel
theorem dX7_addNumber_13 : decode cX7_addNumber 13 = .ok (.bipush 24, 2) := by decide +kernel
theorem dX7_addNumber_15 : decode cX7_addNumber 15 = .ok (.istore_n 2, 1) := by decide +kernel
theorem dX7_addNumber_16 : decode cX7_addNumber 16 = .ok (.iload_n 2, 1) := by decide +kernel
theorem dX7_addNumber_17 : decode cX7_addNumber 17 = .ok (.ifCond .lt 35, 3) := by decide +kernel
theorem dX7_addNumber_20 : decode cX7_addNumber 20 = .ok (.aload_n 0, 1) := by decide +kernel
theorem dX7_addNumber_21 : decode cX7_addNumber 21 = .ok (.getfield 9, 3) := by decide +kernel
theorem dX7_addNumber_24 : decode cX7_addNumber 24 = .ok (.aload_n 0, 1) := by decide +kernel
theorem dX7_addNumber_25 : decode cX7_addNumber 25 = .ok (.getfield 15, 3) := by decide +kernel
theorem dX7_addNumber_28 : decode cX7_addNumber 28 = .ok (.iload_n 1, 1) := by decide +kernel
theorem dX7_addNumber_29 : decode cX7_addNumber 29 = .ok (.iload_n 2, 1) := by decide +kernel
theorem dX7_addNumber_30 : decode cX7_addNumber 30 = .ok (.iushr, 1) := by decide +kernel
theorem dX7_addNumber_31 : decode cX7_addNumber 31 = .ok (.sipush 255, 3) := by decide +kernel
theorem dX7_addNumber_34 : decode cX7_addNumber 34 = .ok (.iand, 1) := by decide +kernel
theorem dX7_addNumber_35 : decode cX7_addNumber 35 = .ok (.iastore, 1) := by decide +kernel
theorem dX7_addNumber_36 : decode cX7_addNumber 36 = .ok (.aload_n 0, 1) := by decide +kernel
theorem dX7_addNumber_37 : decode cX7_addNumber 37 = .ok (.dup, 1) := by decide +kernel
theorem dX7_addNumber_38 : decode cX7_addNumber 38 = .ok (.getfield 15, 3) := by decide +kernel
theorem dX7_addNumber_41 : decode cX7_addNumber 41 = .ok (.iconst 1, 1) := by decide +kernel
theorem dX7_addNumber_42 : decode cX7_addNumber 42 = .ok (.iadd, 1) := by decide +kernel
theorem dX7_addNumber_43 : decode cX7_addNumber 43 = .ok (.putfield 15, 3) := by decide +kernel
theorem dX7_addNumber_46 : decode cX7_addNumber 46 = .ok (.iinc 2 (-8), 3) := by decide +kernel
theorem dX7_addNumber_49 : decode cX7_addNumber 49 = .ok (.goto (-33), 3) := by decide +kernel
theorem dX7_addNumber_52 : decode cX7_addNumber 52 = .ok (.return_, 1) := by decide +kernel
theorem dX7_pairAt_0 : decode cX7_pairAt 0 = .ok (.iload_n 1, 1) := by decide +kernel
theorem dX7_pairAt_1 : decode cX7_pairAt 1 = .ok (.ifCond .lt 12, 3) := by decide +kernel
theorem dX7_pairAt_4 : decode cX7_pairAt 4 = .ok (.iload_n 1, 1) := by decide +kernel
theorem dX7_pairAt_5 : decode cX7_pairAt 5 = .ok (.iconst 1, 1) := by decide +kernel
theorem dX7_pairAt_6 : decode cX7_pairAt 6 = .ok (.iadd, 1) := by decide +kernel
theorem dX7_pairAt_7 : decode cX7_pairAt 7 = .ok (.sipush 940, 3) := by decide +kernel
theorem dX7_pairAt_10 : decode cX7_pairAt 10 = .ok (.if_icmp .lt 7, 3) := by decide +kernel
theorem dX7_pairAt_13 : decode cX7_pairAt 13 = .ok (.iconst 0, 1) := by decide +kernel
theorem dX7_pairAt_14 : decode cX7_pairAt 14 = .ok (.goto 22, 3) := by decide +kernel
theorem dX7_pairAt_17 : decode cX7_pairAt 17 = .ok (.aload_n 0, 1) := by decide +kernel
theorem dX7_pairAt_18 : decode cX7_pairAt 18 = .ok (.getfield 9, 3) := by decide +kernel
theorem dX7_pairAt_21 : decode cX7_pairAt 21 = .ok (.iload_n 1, 1) := by decide +kernel
theorem dX7_pairAt_22 : decode cX7_pairAt 22 = .ok (.iaload, 1) := by decide +kernel
theorem dX7_pairAt_23 : decode cX7_pairAt 23 = .ok (.sipush 256, 3) := by decide +kernel
theorem dX7_pairAt_26 : decode cX7_pairAt 26 = .ok (.imul, 1) := by decide +kernel
theorem dX7_pairAt_27 : decode cX7_pairAt 27 = .ok (.aload_n 0, 1) := by decide +kernel
theorem dX7_pairAt_28 : decode cX7_pairAt 28 = .ok (.getfield 9, 3) := by decide +kernel
theorem dX7_pairAt_31 : decode cX7_pairAt 31 = .ok (.iload_n 1, 1) := by decide +kernel
theorem dX7_pairAt_32 : decode cX7_pairAt 32 = .ok (.iconst 1, 1) := by decide +kernel
theorem dX7_pairAt_33 : decode cX7_pairAt 33 = .ok (.iadd, 1) := by decide +kernel
theorem dX7_pairAt_34 : decode cX7_pairAt 34 = .ok (.iaload, 1) := by decide +kernel
theorem dX7_pairAt_35 : decode cX7_pairAt 35 = .ok (.iadd, 1) := by decide +kernel
theorem dX7_pairAt_36 : decode cX7_pairAt 36 = .ok (.ireturn, 1) := by decide +kernel
theorem dX7_open_0 : decode cX7_open 0 = .ok (.aload_n 0, 1) := by decide +kernel
theorem dX7_open_1 : decode cX7_open 1 = .ok (.iload_n 1, 1) := by decide +kernel
theorem dX7_open_2 : decode cX7_open 2 = .ok (.putfield 19, 3) := by decide +kernel
theorem dX7_open_5 : decode cX7_open 5 = .ok (.aload_n 0, 1) := by decide +kernel
theorem dX7_open_6 : decode cX7_open 6 = .ok (.iconst 0, 1) := by decide +kernel
theorem dX7_open_7 : decode cX7_open 7 = .ok (.putfield 22, 3) := by decide +kernel
theorem dX7_open_10 : decode cX7_open 10 = .ok (.aload_n 0, 1) := by decide +kernel
theorem dX7_open_11 : decode cX7_open 11 = .ok (.invokevirtual 25, 3) := by decide +kernel
theorem dX7_open_14 : decode cX7_open 14 = .ok (.return_, 1) := by decide +kernel
theorem dX7_step_0 : decode cX7_step 0 = .ok (.aload_n 0, 1) := by decide +kernel
theorem dX7_step_1 : decode cX7_step 1 = .ok (.getfield 15, 3) := by decide +kernel
theorem dX7_step_4 : decode cX7_step 4 = .ok (.aload_n 0, 1) := by decide +kernel
theorem dX7_step_5 : decode cX7_step 5 = .ok (.getfield 19, 3) := by decide +kernel
theorem dX7_step_8 : decode cX7_step 8 = .ok (.if_icmp .ge 10, 3) := by decide +kernel
theorem dX7_step_11 : decode cX7_step 11 = .ok (.aload_n 0, 1) := by decide +kernel
theorem dX7_step_12 : decode cX7_step 12 = .ok (.getfield 15, 3) := by decide +kernel
theorem dX7_step_15 : decode cX7_step 15 = .ok (.goto 7, 3) := by decide +kernel
theorem dX7_step_18 : decode cX7_step 18 = .ok (.aload_n 0, 1) := by decide +kernel
theorem dX7_step_19 : decode cX7_step 19 = .ok (.getfield 19, 3) := by decide +kernel
theorem dX7_step_22 : decode cX7_step 22 = .ok (.istore_n 1, 1) := by decide +kernel
theorem dX7_step_23 : decode cX7_step 23 = .ok (.aload_n 0, 1) := by decide +kernel
theorem dX7_step_24 : decode cX7_step 24 = .ok (.aload_n 0, 1) := by decide +kernel
theorem dX7_step_25 : decode cX7_step 25 = .ok (.getfield 22, 3) := by decide +kernel
theorem dX7_step_28 : decode cX7_step 28 = .ok (.putfield 28, 3) := by decide +kernel
theorem dX7_step_31 : decode cX7_step 31 = .ok (.aload_n 0, 1) := by decide +kernel
theorem dX7_step_32 : decode cX7_step 32 = .ok (.getfield 28, 3) := by decide +kernel
theorem dX7_step_35 : decode cX7_step 35 = .ok (.iload_n 1, 1) := by decide +kernel
theorem dX7_step_36 : decode cX7_step 36 = .ok (.if_icmp .ge 44, 3) := by decide +kernel
theorem dX7_step_39 : decode cX7_step 39 = .ok (.aload_n 0, 1) := by decide +kernel
theorem dX7_step_40 : decode cX7_step 40 = .ok (.getfield 9, 3) := by decide +kernel
theorem dX7_step_43 : decode cX7_step 43 = .ok (.aload_n 0, 1) := by decide +kernel
theorem dX7_step_44 : decode cX7_step 44 = .ok (.getfield 28, 3) := by decide +kernel
theorem dX7_step_47 : decode cX7_step 47 = .ok (.iaload, 1) := by decide +kernel
theorem dX7_step_48 : decode cX7_step 48 = .ok (.bipush 32, 2) := by decide +kernel
theorem dX7_step_50 : decode cX7_step 50 = .ok (.if_icmp .eq 17, 3) := by decide +kernel
theorem dX7_step_53 : decode cX7_step 53 = .ok (.aload_n 0, 1) := by decide +kernel
theorem dX7_step_54 : decode cX7_step 54 = .ok (.getfield 9, 3) := by decide +kernel
theorem dX7_step_57 : decode cX7_step 57 = .ok (.aload_n 0, 1) := by decide +kernel
theorem dX7_step_58 : decode cX7_step 58 = .ok (.getfield 28, 3) := by decide +kernel
theorem dX7_step_61 : decode cX7_step 61 = .ok (.iaload, 1) := by decide +kernel
theorem dX7_step_62 : decode cX7_step 62 = .ok (.bipush 10, 2) := by decide +kernel
theorem dX7_step_64 : decode cX7_step 64 = .ok (.if_icmp .ne 16, 3) := by decide +kernel
theorem dX7_step_67 : decode cX7_step 67 = .ok (.aload_n 0, 1) := by decide +kernel
theorem dX7_step_68 : decode cX7_step 68 = .ok (.dup, 1) := by decide +kernel
theorem dX7_step_69 : decode cX7_step 69 = .ok (.getfield 28, 3) := by decide +kernel
theorem dX7_step_72 : decode cX7_step 72 = .ok (.iconst 1, 1) := by decide +kernel
theorem dX7_step_73 : decode cX7_step 73 = .ok (.iadd, 1) := by decide +kernel
theorem dX7_step_74 : decode cX7_step 74 = .ok (.putfield 28, 3) := by decide +kernel
theorem dX7_step_77 : decode cX7_step 77 = .ok (.goto (-46), 3) := by decide +kernel
theorem dX7_step_80 : decode cX7_step 80 = .ok (.aload_n 0, 1) := by decide +kernel
theorem dX7_step_81 : decode cX7_step 81 = .ok (.getfield 28, 3) := by decide +kernel
theorem dX7_step_84 : decode cX7_step 84 = .ok (.iload_n 1, 1) := by decide +kernel
theorem dX7_step_85 : decode cX7_step 85 = .ok (.if_icmp .lt 29, 3) := by decide +kernel
theorem dX7_step_88 : decode cX7_step 88 = .ok (.aload_n 0, 1) := by decide +kernel
theorem dX7_step_89 : decode cX7_step 89 = .ok (.iload_n 1, 1) := by decide +kernel
theorem dX7_step_90 : decode cX7_step 90 = .ok (.putfield 28, 3) := by decide +kernel
theorem dX7_step_93 : decode cX7_step 93 = .ok (.aload_n 0, 1) := by decide +kernel
theorem dX7_step_94 : decode cX7_step 94 = .ok (.aload_n 0, 1) := by decide +kernel
theorem dX7_step_95 : decode cX7_step 95 = .ok (.getfield 15, 3) := by decide +kernel
theorem dX7_step_98 : decode cX7_step 98 = .ok (.aload_n 0, 1) := by decide +kernel
theorem dX7_step_99 : decode cX7_step 99 = .ok (.getfield 19, 3) := by decide +kernel
theorem dX7_step_102 : decode cX7_step 102 = .ok (.if_icmp .le 7, 3) := by decide +kernel
theorem dX7_step_105 : decode cX7_step 105 = .ok (.iconst 1, 1) := by decide +kernel
theorem dX7_step_106 : decode cX7_step 106 = .ok (.goto 4, 3) := by decide +kernel
theorem dX7_step_109 : decode cX7_step 109 = .ok (.iconst 0, 1) := by decide +kernel
theorem dX7_step_110 : decode cX7_step 110 = .ok (.putfield 31, 3) := by decide +kernel
theorem dX7_step_113 : decode cX7_step 113 = .ok (.return_, 1) := by decide +kernel
theorem dX7_step_114 : decode cX7_step 114 = .ok (.iconst 0, 1) := by decide +kernel
theorem dX7_step_115 : decode cX7_step 115 = .ok (.istore_n 2, 1) := by decide +kernel
theorem dX7_step_116 : decode cX7_step 116 = .ok (.iconst 0, 1) := by decide +kernel
theorem dX7_step_117 : decode cX7_step 117 = .ok (.istore_n 3, 1) := by decide +kernel
theorem dX7_step_118 : decode cX7_step 118 = .ok (.aload_n 0, 1) := by decide +kernel
theorem dX7_step_119 : decode cX7_step 119 = .ok (.lconst 0, 1) := by decide +kernel
theorem dX7_step_120 : decode cX7_step 120 = .ok (.putfield 34, 3) := by decide +kernel
theorem dX7_step_123 : decode cX7_step 123 = .ok (.aload_n 0, 1) := by decide +kernel
theorem dX7_step_124 : decode cX7_step 124 = .ok (.iconst 0, 1) := by decide +kernel
theorem dX7_step_125 : decode cX7_step 125 = .ok (.putfield 38, 3) := by decide +kernel
theorem dX7_step_128 : decode cX7_step 128 = .ok (.aload_n 0, 1) := by decide +kernel
theorem dX7_step_129 : decode cX7_step 129 = .ok (.aload_n 0, 1) := by decide +kernel
theorem dX7_step_130 : decode cX7_step 130 = .ok (.getfield 28, 3) := by decide +kernel
theorem dX7_step_133 : decode cX7_step 133 = .ok (.putfield 22, 3) := by decide +kernel
theorem dX7_step_136 : decode cX7_step 136 = .ok (.aload_n 0, 1) := by decide +kernel
theorem dX7_step_137 : decode cX7_step 137 = .ok (.getfield 22, 3) := by decide +kernel
theorem dX7_step_140 : decode cX7_step 140 = .ok (.aload_n 0, 1) := by decide +kernel
theorem dX7_step_141 : decode cX7_step 141 = .ok (.getfield 15, 3) := by decide +kernel
theorem dX7_step_144 : decode cX7_step 144 = .ok (.if_icmp .ge 102, 3) := by decide +kernel
theorem dX7_step_147 : decode cX7_step 147 = .ok (.aload_n 0, 1) := by decide +kernel
theorem dX7_step_148 : decode cX7_step 148 = .ok (.getfield 9, 3) := by decide +kernel
theorem dX7_step_151 : decode cX7_step 151 = .ok (.aload_n 0, 1) := by decide +kernel
theorem dX7_step_152 : decode cX7_step 152 = .ok (.getfield 22, 3) := by decide +kernel
theorem dX7_step_155 : decode cX7_step 155 = .ok (.iaload, 1) := by decide +kernel
theorem dX7_step_156 : decode cX7_step 156 = .ok (.istore 4, 2) := by decide +kernel
theorem dX7_step_158 : decode cX7_step 158 = .ok (.iload 4, 2) := by decide +kernel
theorem dX7_step_160 : decode cX7_step 160 = .ok (.bipush 97, 2) := by decide +kernel
theorem dX7_step_162 : decode cX7_step 162 = .ok (.if_icmp .lt 37, 3) := by decide +kernel
theorem dX7_step_165 : decode cX7_step 165 = .ok (.iload 4, 2) := by decide +kernel
theorem dX7_step_167 : decode cX7_step 167 = .ok (.bipush 122, 2) := by decide +kernel
theorem dX7_step_169 : decode cX7_step 169 = .ok (.if_icmp .gt 30, 3) := by decide +kernel
theorem dX7_step_172 : decode cX7_step 172 = .ok (.iinc 2 1, 3) := by decide +kernel
theorem dX7_step_175 : decode cX7_step 175 = .ok (.aload_n 0, 1) := by decide +kernel
theorem dX7_step_176 : decode cX7_step 176 = .ok (.aload_n 0, 1) := by decide +kernel
theorem dX7_step_177 : decode cX7_step 177 = .ok (.getfield 34, 3) := by decide +kernel
theorem dX7_step_180 : decode cX7_step 180 = .ok (.ldc2_w 41, 3) := by decide +kernel
theorem dX7_step_183 : decode cX7_step 183 = .ok (.lmul, 1) := by decide +kernel
theorem dX7_step_184 : decode cX7_step 184 = .ok (.iload 4, 2) := by decide +kernel
theorem dX7_step_186 : decode cX7_step 186 = .ok (.bipush 97, 2) := by decide +kernel
theorem dX7_step_188 : decode cX7_step 188 = .ok (.isub, 1) := by decide +kernel
theorem dX7_step_189 : decode cX7_step 189 = .ok (.iconst 1, 1) := by decide +kernel
theorem dX7_step_190 : decode cX7_step 190 = .ok (.iadd, 1) := by decide +kernel
theorem dX7_step_191 : decode cX7_step 191 = .ok (.i2l, 1) := by decide +kernel
theorem dX7_step_192 : decode cX7_step 192 = .ok (.ladd, 1) := by decide +kernel
theorem dX7_step_193 : decode cX7_step 193 = .ok (.putfield 34, 3) := by decide +kernel
theorem dX7_step_196 : decode cX7_step 196 = .ok (.goto 37, 3) := by decide +kernel
theorem dX7_step_199 : decode cX7_step 199 = .ok (.iload 4, 2) := by decide +kernel
theorem dX7_step_201 : decode cX7_step 201 = .ok (.bipush 48, 2) := by decide +kernel
theorem dX7_step_203 : decode cX7_step 203 = .ok (.if_icmp .lt 43, 3) := by decide +kernel
theorem dX7_step_206 : decode cX7_step 206 = .ok (.iload 4, 2) := by decide +kernel
theorem dX7_step_208 : decode cX7_step 208 = .ok (.bipush 57, 2) := by decide +kernel
theorem dX7_step_210 : decode cX7_step 210 = .ok (.if_icmp .gt 36, 3) := by decide +kernel
theorem dX7_step_213 : decode cX7_step 213 = .ok (.iinc 3 1, 3) := by decide +kernel
theorem dX7_step_216 : decode cX7_step 216 = .ok (.aload_n 0, 1) := by decide +kernel
theorem dX7_step_217 : decode cX7_step 217 = .ok (.aload_n 0, 1) := by decide +kernel
theorem dX7_step_218 : decode cX7_step 218 = .ok (.getfield 38, 3) := by decide +kernel
theorem dX7_step_221 : decode cX7_step 221 = .ok (.bipush 10, 2) := by decide +kernel
theorem dX7_step_223 : decode cX7_step 223 = .ok (.imul, 1) := by decide +kernel
theorem dX7_step_224 : decode cX7_step 224 = .ok (.iload 4, 2) := by decide +kernel
theorem dX7_step_226 : decode cX7_step 226 = .ok (.bipush 48, 2) := by decide +kernel
theorem dX7_step_228 : decode cX7_step 228 = .ok (.isub, 1) := by decide +kernel
theorem dX7_step_229 : decode cX7_step 229 = .ok (.iadd, 1) := by decide +kernel
theorem dX7_step_230 : decode cX7_step 230 = .ok (.putfield 38, 3) := by decide +kernel
theorem dX7_step_233 : decode cX7_step 233 = .ok (.aload_n 0, 1) := by decide +kernel
theorem dX7_step_234 : decode cX7_step 234 = .ok (.dup, 1) := by decide +kernel
theorem dX7_step_235 : decode cX7_step 235 = .ok (.getfield 22, 3) := by decide +kernel
theorem dX7_step_238 : decode cX7_step 238 = .ok (.iconst 1, 1) := by decide +kernel
theorem dX7_step_239 : decode cX7_step 239 = .ok (.iadd, 1) := by decide +kernel
theorem dX7_step_240 : decode cX7_step 240 = .ok (.putfield 22, 3) := by decide +kernel
theorem dX7_step_243 : decode cX7_step 243 = .ok (.goto (-107), 3) := by decide +kernel
theorem dX7_step_246 : decode cX7_step 246 = .ok (.aload_n 0, 1) := by decide +kernel
theorem dX7_step_247 : decode cX7_step 247 = .ok (.iconst 1, 1) := by decide +kernel
theorem dX7_step_248 : decode cX7_step 248 = .ok (.putfield 31, 3) := by decide +kernel
theorem dX7_step_251 : decode cX7_step 251 = .ok (.iload_n 2, 1) := by decide +kernel
theorem dX7_step_252 : decode cX7_step 252 = .ok (.ifCond .ne 108, 3) := by decide +kernel
theorem dX7_step_255 : decode cX7_step 255 = .ok (.iload_n 3, 1) := by decide +kernel
theorem dX7_step_256 : decode cX7_step 256 = .ok (.ifCond .ne 104, 3) := by decide +kernel
theorem dX7_step_259 : decode cX7_step 259 = .ok (.aload_n 0, 1) := by decide +kernel
theorem dX7_step_260 : decode cX7_step 260 = .ok (.aload_n 0, 1) := by decide +kernel
theorem dX7_step_261 : decode cX7_step 261 = .ok (.getfield 9, 3) := by decide +kernel
theorem dX7_step_264 : decode cX7_step 264 = .ok (.aload_n 0, 1) := by decide +kernel
theorem dX7_step_265 : decode cX7_step 265 = .ok (.getfield 28, 3) := by decide +kernel
theorem dX7_step_268 : decode cX7_step 268 = .ok (.iaload, 1) := by decide +kernel
theorem dX7_step_269 : decode cX7_step 269 = .ok (.putfield 43, 3) := by decide +kernel
theorem dX7_step_272 : decode cX7_step 272 = .ok (.aload_n 0, 1) := by decide +kernel
theorem dX7_step_273 : decode cX7_step 273 = .ok (.aload_n 0, 1) := by decide +kernel
theorem dX7_step_274 : decode cX7_step 274 = .ok (.getfield 28, 3) := by decide +kernel
theorem dX7_step_277 : decode cX7_step 277 = .ok (.iconst 1, 1) := by decide +kernel
theorem dX7_step_278 : decode cX7_step 278 = .ok (.iadd, 1) := by decide +kernel
theorem dX7_step_279 : decode cX7_step 279 = .ok (.putfield 22, 3) := by decide +kernel
theorem dX7_step_282 : decode cX7_step 282 = .ok (.aload_n 0, 1) := by decide +kernel
theorem dX7_step_283 : decode cX7_step 283 = .ok (.getfield 43, 3) := by decide +kernel
theorem dX7_step_286 : decode cX7_step 286 = .ok (.bipush 60, 2) := by decide +kernel
theorem dX7_step_288 : decode cX7_step 288 = .ok (.if_icmp .eq 21, 3) := by decide +kernel
theorem dX7_step_291 : decode cX7_step 291 = .ok (.aload_n 0, 1) := by decide +kernel
theorem dX7_step_292 : decode cX7_step 292 = .ok (.getfield 43, 3) := by decide +kernel
theorem dX7_step_295 : decode cX7_step 295 = .ok (.bipush 61, 2) := by decide +kernel
theorem dX7_step_297 : decode cX7_step 297 = .ok (.if_icmp .eq 12, 3) := by decide +kernel
theorem dX7_step_300 : decode cX7_step 300 = .ok (.aload_n 0, 1) := by decide +kernel
theorem dX7_step_301 : decode cX7_step 301 = .ok (.getfield 43, 3) := by decide +kernel
theorem dX7_step_304 : decode cX7_step 304 = .ok (.bipush 62, 2) := by decide +kernel
theorem dX7_step_306 : decode cX7_step 306 = .ok (.if_icmp .ne 7, 3) := by decide +kernel
theorem dX7_step_309 : decode cX7_step 309 = .ok (.iconst 1, 1) := by decide +kernel
theorem dX7_step_310 : decode cX7_step 310 = .ok (.goto 4, 3) := by decide +kernel
theorem dX7_step_313 : decode cX7_step 313 = .ok (.iconst 0, 1) := by decide +kernel
theorem dX7_step_314 : decode cX7_step 314 = .ok (.istore 4, 2) := by decide +kernel
theorem dX7_step_316 : decode cX7_step 316 = .ok (.aload_n 0, 1) := by decide +kernel
theorem dX7_step_317 : decode cX7_step 317 = .ok (.iload 4, 2) := by decide +kernel
theorem dX7_step_319 : decode cX7_step 319 = .ok (.ifCond .ne 30, 3) := by decide +kernel
theorem dX7_step_322 : decode cX7_step 322 = .ok (.aload_n 0, 1) := by decide +kernel
theorem dX7_step_323 : decode cX7_step 323 = .ok (.getfield 43, 3) := by decide +kernel
theorem dX7_step_326 : decode cX7_step 326 = .ok (.bipush 59, 2) := by decide +kernel
theorem dX7_step_328 : decode cX7_step 328 = .ok (.if_icmp .eq 21, 3) := by decide +kernel
theorem dX7_step_331 : decode cX7_step 331 = .ok (.aload_n 0, 1) := by decide +kernel
theorem dX7_step_332 : decode cX7_step 332 = .ok (.getfield 43, 3) := by decide +kernel
theorem dX7_step_335 : decode cX7_step 335 = .ok (.bipush 40, 2) := by decide +kernel
theorem dX7_step_337 : decode cX7_step 337 = .ok (.if_icmp .eq 12, 3) := by decide +kernel
theorem dX7_step_340 : decode cX7_step 340 = .ok (.aload_n 0, 1) := by decide +kernel
theorem dX7_step_341 : decode cX7_step 341 = .ok (.getfield 43, 3) := by decide +kernel
theorem dX7_step_344 : decode cX7_step 344 = .ok (.bipush 41, 2) := by decide +kernel
theorem dX7_step_346 : decode cX7_step 346 = .ok (.if_icmp .ne 7, 3) := by decide +kernel
theorem dX7_step_349 : decode cX7_step 349 = .ok (.iconst 4, 1) := by decide +kernel
theorem dX7_step_350 : decode cX7_step 350 = .ok (.goto 4, 3) := by decide +kernel
theorem dX7_step_353 : decode cX7_step 353 = .ok (.iconst 1, 1) := by decide +kernel
theorem dX7_step_354 : decode cX7_step 354 = .ok (.putfield 31, 3) := by decide +kernel
theorem dX7_step_357 : decode cX7_step 357 = .ok (.goto 35, 3) := by decide +kernel
theorem dX7_step_360 : decode cX7_step 360 = .ok (.iload_n 3, 1) := by decide +kernel
theorem dX7_step_361 : decode cX7_step 361 = .ok (.ifCond .ne 17, 3) := by decide +kernel
theorem dX7_step_364 : decode cX7_step 364 = .ok (.iload_n 2, 1) := by decide +kernel
theorem dX7_step_365 : decode cX7_step 365 = .ok (.bipush 7, 2) := by decide +kernel
theorem dX7_step_367 : decode cX7_step 367 = .ok (.if_icmp .gt 11, 3) := by decide +kernel
theorem dX7_step_370 : decode cX7_step 370 = .ok (.aload_n 0, 1) := by decide +kernel
theorem dX7_step_371 : decode cX7_step 371 = .ok (.iconst 2, 1) := by decide +kernel
theorem dX7_step_372 : decode cX7_step 372 = .ok (.putfield 31, 3) := by decide +kernel
theorem dX7_step_375 : decode cX7_step 375 = .ok (.goto 17, 3) := by decide +kernel
theorem dX7_step_378 : decode cX7_step 378 = .ok (.iload_n 2, 1) := by decide +kernel
theorem dX7_step_379 : decode cX7_step 379 = .ok (.ifCond .ne 13, 3) := by decide +kernel
theorem dX7_step_382 : decode cX7_step 382 = .ok (.iload_n 3, 1) := by decide +kernel
theorem dX7_step_383 : decode cX7_step 383 = .ok (.iconst 2, 1) := by decide +kernel
theorem dX7_step_384 : decode cX7_step 384 = .ok (.if_icmp .gt 8, 3) := by decide +kernel
theorem dX7_step_387 : decode cX7_step 387 = .ok (.aload_n 0, 1) := by decide +kernel
theorem dX7_step_388 : decode cX7_step 388 = .ok (.iconst 3, 1) := by decide +kernel
theorem dX7_step_389 : decode cX7_step 389 = .ok (.putfield 31, 3) := by decide +kernel
theorem dX7_step_392 : decode cX7_step 392 = .ok (.return_, 1) := by decide +kernel
theorem dX7_is_0 : decode cX7_is 0 = .ok (.aload_n 0, 1) := by decide +kernel
theorem dX7_is_1 : decode cX7_is 1 = .ok (.getfield 31, 3) := by decide +kernel
theorem dX7_is_4 : decode cX7_is 4 = .ok (.iconst 2, 1) := by decide +kernel
theorem dX7_is_5 : decode cX7_is 5 = .ok (.if_icmp .ne 19, 3) := by decide +kernel
theorem dX7_is_8 : decode cX7_is 8 = .ok (.aload_n 0, 1) := by decide +kernel
theorem dX7_is_9 : decode cX7_is 9 = .ok (.getfield 34, 3) := by decide +kernel
theorem dX7_is_12 : decode cX7_is 12 = .ok (.aload_n 1, 1) := by decide +kernel
theorem dX7_is_13 : decode cX7_is 13 = .ok (.getfield 46, 3) := by decide +kernel
theorem dX7_is_16 : decode cX7_is 16 = .ok (.lcmp, 1) := by decide +kernel
theorem dX7_is_17 : decode cX7_is 17 = .ok (.ifCond .ne 7, 3) := by decide +kernel
theorem dX7_is_20 : decode cX7_is 20 = .ok (.iconst 1, 1) := by decide +kernel
theorem dX7_is_21 : decode cX7_is 21 = .ok (.goto 4, 3) := by decide +kernel
theorem dX7_is_24 : decode cX7_is 24 = .ok (.iconst 0, 1) := by decide +kernel
theorem dX7_is_25 : decode cX7_is 25 = .ok (.ireturn, 1) := by decide +kernel
theorem dX7_isSigned_0 : decode cX7_isSigned 0 = .ok (.aload_n 0, 1) := by decide +kernel
theorem dX7_isSigned_1 : decode cX7_isSigned 1 = .ok (.getfield 31, 3) := by decide +kernel
theorem dX7_isSigned_4 : decode cX7_isSigned 4 = .ok (.iconst 4, 1) := by decide +kernel
theorem dX7_isSigned_5 : decode cX7_isSigned 5 = .ok (.if_icmp .ne 15, 3) := by decide +kernel
theorem dX7_isSigned_8 : decode cX7_isSigned 8 = .ok (.aload_n 0, 1) := by decide +kernel
theorem dX7_isSigned_9 : decode cX7_isSigned 9 = .ok (.getfield 43, 3) := by decide +kernel
theorem dX7_isSigned_12 : decode cX7_isSigned 12 = .ok (.iload_n 1, 1) := by decide +kernel
theorem dX7_isSigned_13 : decode cX7_isSigned 13 = .ok (.if_icmp .ne 7, 3) := by decide +kernel
theorem dX7_isSigned_16 : decode cX7_isSigned 16 = .ok (.iconst 1, 1) := by decide +kernel
theorem dX7_isSigned_17 : decode cX7_isSigned 17 = .ok (.goto 4, 3) := by decide +kernel
theorem dX7_isSigned_20 : decode cX7_isSigned 20 = .ok (.iconst 0, 1) := by decide +kernel
theorem dX7_isSigned_21 : decode cX7_isSigned 21 = .ok (.ireturn, 1) := by decide +kernel
theorem dX8_init_0 : decode cX8_init 0 = .ok (.aload_n 0, 1) := by decide +kernel
theorem dX8_init_1 : decode cX8_init 1 = .ok (.invokespecial 3, 3) := by decide +kernel
theorem dX8_init_4 : decode cX8_init 4 = .ok (.aload_n 0, 1) := by decide +kernel
theorem dX8_init_5 : decode cX8_init 5 = .ok (.aload_n 1, 1) := by decide +kernel
theorem dX8_init_6 : decode cX8_init 6 = .ok (.putfield 9, 3) := by decide +kernel
theorem dX8_init_9 : decode cX8_init 9 = .ok (.return_, 1) := by decide +kernel
theorem dX8_open_0 : decode cX8_open 0 = .ok (.aload_n 0, 1) := by decide +kernel
theorem dX8_open_1 : decode cX8_open 1 = .ok (.iconst 0, 1) := by decide +kernel
theorem dX8_open_2 : decode cX8_open 2 = .ok (.putfield 15, 3) := by decide +kernel
theorem dX8_open_5 : decode cX8_open 5 = .ok (.aload_n 0, 1) := by decide +kernel
theorem dX8_open_6 : decode cX8_open 6 = .ok (.getfield 9, 3) := by decide +kernel
theorem dX8_open_9 : decode cX8_open 9 = .ok (.iload_n 1, 1) := by decide +kernel
theorem dX8_open_10 : decode cX8_open 10 = .ok (.invokevirtual 19, 3) := by decide +kernel
theorem dX8_open_13 : decode cX8_open 13 = .ok (.return_, 1) := by decide +kernel
theorem dX8_fail_0 : decode cX8_fail 0 = .ok (.aload_n 0, 1) := by decide +kernel
theorem dX8_fail_1 : decode cX8_fail 1 = .ok (.iload_n 1, 1) := by decide +kernel
theorem dX8_fail_2 : decode cX8_fail 2 = .ok (.putfield 15, 3) := by decide +kernel
theorem dX8_fail_5 : decode cX8_fail 5 = .ok (.iconst 0, 1) := by decide +kernel
theorem dX8_fail_6 : decode cX8_fail 6 = .ok (.ireturn, 1) := by decide +kernel
theorem dX8_takeSign_0 : decode cX8_takeSign 0 = .ok (.aload_n 0, 1) := by decide +kernel
theorem dX8_takeSign_1 : decode cX8_takeSign 1 = .ok (.getfield 9, 3) := by decide +kernel
theorem dX8_takeSign_4 : decode cX8_takeSign 4 = .ok (.iload_n 1, 1) := by decide +kernel
theorem dX8_takeSign_5 : decode cX8_takeSign 5 = .ok (.invokevirtual 25, 3) := by decide +kernel
theorem dX8_takeSign_8 : decode cX8_takeSign 8 = .ok (.ifCond .ne 9, 3) := by decide +kernel
theorem dX8_takeSign_11 : decode cX8_takeSign 11 = .ok (.aload_n 0, 1) := by decide +kernel
theorem dX8_takeSign_12 : decode cX8_takeSign 12 = .ok (.iconst 1, 1) := by decide +kernel
theorem dX8_takeSign_13 : decode cX8_takeSign 13 = .ok (.invokevirtual 29, 3) := by decide +kernel
theorem dX8_takeSign_16 : decode cX8_takeSign 16 = .ok (.ireturn, 1) := by decide +kernel
theorem dX8_takeSign_17 : decode cX8_takeSign 17 = .ok (.aload_n 0, 1) := by decide +kernel
theorem dX8_takeSign_18 : decode cX8_takeSign 18 = .ok (.getfield 9, 3) := by decide +kernel
theorem dX8_takeSign_21 : decode cX8_takeSign 21 = .ok (.invokevirtual 33, 3) := by decide +kernel
theorem dX8_takeSign_24 : decode cX8_takeSign 24 = .ok (.iconst 1, 1) := by decide +kernel
theorem dX8_takeSign_25 : decode cX8_takeSign 25 = .ok (.ireturn, 1) := by decide +kernel
theorem dX8_takeNumber_0 : decode cX8_takeNumber 0 = .ok (.aload_n 0, 1) := by decide +kernel
theorem dX8_takeNumber_1 : decode cX8_takeNumber 1 = .ok (.getfield 9, 3) := by decide +kernel
theorem dX8_takeNumber_4 : decode cX8_takeNumber 4 = .ok (.getfield 36, 3) := by decide +kernel
theorem dX8_takeNumber_7 : decode cX8_takeNumber 7 = .ok (.iconst 3, 1) := by decide +kernel
theorem dX8_takeNumber_8 : decode cX8_takeNumber 8 = .ok (.if_icmp .eq 9, 3) := by decide +kernel
theorem dX8_takeNumber_11 : decode cX8_takeNumber 11 = .ok (.aload_n 0, 1) := by decide +kernel
theorem dX8_takeNumber_12 : decode cX8_takeNumber 12 = .ok (.iconst 1, 1) := by decide +kernel
theorem dX8_takeNumber_13 : decode cX8_takeNumber 13 = .ok (.invokevirtual 29, 3) := by decide +kernel
theorem dX8_takeNumber_16 : decode cX8_takeNumber 16 = .ok (.ireturn, 1) := by decide +kernel
theorem dX8_takeNumber_17 : decode cX8_takeNumber 17 = .ok (.aload_n 0, 1) := by decide +kernel
theorem dX8_takeNumber_18 : decode cX8_takeNumber 18 = .ok (.getfield 9, 3) := by decide +kernel
theorem dX8_takeNumber_21 : decode cX8_takeNumber 21 = .ok (.getfield 39, 3) := by decide +kernel
theorem dX8_takeNumber_24 : decode cX8_takeNumber 24 = .ok (.iload_n 1, 1) := by decide +kernel
theorem dX8_takeNumber_25 : decode cX8_takeNumber 25 = .ok (.if_icmp .lt 14, 3) := by decide +kernel
theorem dX8_takeNumber_28 : decode cX8_takeNumber 28 = .ok (.aload_n 0, 1) := by decide +kernel
theorem dX8_takeNumber_29 : decode cX8_takeNumber 29 = .ok (.getfield 9, 3) := by decide +kernel
theorem dX8_takeNumber_32 : decode cX8_takeNumber 32 = .ok (.getfield 39, 3) := by decide +kernel
theorem dX8_takeNumber_35 : decode cX8_takeNumber 35 = .ok (.iload_n 2, 1) := by decide +kernel
theorem dX8_takeNumber_36 : decode cX8_takeNumber 36 = .ok (.if_icmp .le 9, 3) := by decide +kernel
theorem dX8_takeNumber_39 : decode cX8_takeNumber 39 = .ok (.aload_n 0, 1) := by decide +kernel
theorem dX8_takeNumber_40 : decode cX8_takeNumber 40 = .ok (.iconst 2, 1) := by decide +kernel
theorem dX8_takeNumber_41 : decode cX8_takeNumber 41 = .ok (.invokevirtual 29, 3) := by decide +kernel
theorem dX8_takeNumber_44 : decode cX8_takeNumber 44 = .ok (.ireturn, 1) := by decide +kernel
theorem dX8_takeNumber_45 : decode cX8_takeNumber 45 = .ok (.aload_n 0, 1) := by decide +kernel
theorem dX8_takeNumber_46 : decode cX8_takeNumber 46 = .ok (.aload_n 0, 1) := by decide +kernel
theorem dX8_takeNumber_47 : decode cX8_takeNumber 47 = .ok (.getfield 9, 3) := by decide +kernel
theorem dX8_takeNumber_50 : decode cX8_takeNumber 50 = .ok (.getfield 39, 3) := by decide +kernel
theorem dX8_takeNumber_53 : decode cX8_takeNumber 53 = .ok (.putfield 42, 3) := by decide +kernel
theorem dX8_takeNumber_56 : decode cX8_takeNumber 56 = .ok (.aload_n 0, 1) := by decide +kernel
theorem dX8_takeNumber_57 : decode cX8_takeNumber 57 = .ok (.getfield 9, 3) := by decide +kernel
theorem dX8_takeNumber_60 : decode cX8_takeNumber 60 = .ok (.invokevirtual 33, 3) := by decide +kernel
theorem dX8_takeNumber_63 : decode cX8_takeNumber 63 = .ok (.iconst 1, 1) := by decide +kernel
theorem dX8_takeNumber_64 : decode cX8_takeNumber 64 = .ok (.ireturn, 1) := by decide +kernel
theorem dX8_takeYesOrNo_0 : decode cX8_takeYesOrNo 0 = .ok (.aload_n 0, 1) := by decide +kernel
theorem dX8_takeYesOrNo_1 : decode cX8_takeYesOrNo 1 = .ok (.getfield 9, 3) := by decide +kernel
theorem dX8_takeYesOrNo_4 : decode cX8_takeYesOrNo 4 = .ok (.getstatic 45, 3) := by decide +kernel
theorem dX8_takeYesOrNo_7 : decode cX8_takeYesOrNo 7 = .ok (.invokevirtual 51, 3) := by decide +kernel
theorem dX8_takeYesOrNo_10 : decode cX8_takeYesOrNo 10 = .ok (.ifCond .ne 22, 3) := by decide +kernel
theorem dX8_takeYesOrNo_13 : decode cX8_takeYesOrNo 13 = .ok (.aload_n 0, 1) := by decide +kernel
theorem dX8_takeYesOrNo_14 : decode cX8_takeYesOrNo 14 = .ok (.getfield 9, 3) := by decide +kernel
theorem dX8_takeYesOrNo_17 : decode cX8_takeYesOrNo 17 = .ok (.getstatic 55, 3) := by decide +kernel
theorem dX8_takeYesOrNo_20 : decode cX8_takeYesOrNo 20 = .ok (.invokevirtual 51, 3) := by decide +kernel
theorem dX8_takeYesOrNo_23 : decode cX8_takeYesOrNo 23 = .ok (.ifCond .ne 9, 3) := by decide +kernel
theorem dX8_takeYesOrNo_26 : decode cX8_takeYesOrNo 26 = .ok (.aload_n 0, 1) := by decide +kernel
theorem dX8_takeYesOrNo_27 : decode cX8_takeYesOrNo 27 = .ok (.iconst 1, 1) := by decide +kernel
theorem dX8_takeYesOrNo_28 : decode cX8_takeYesOrNo 28 = .ok (.invokevirtual 29, 3) := by decide +kernel
theorem dX8_takeYesOrNo_31 : decode cX8_takeYesOrNo 31 = .ok (.ireturn, 1) := by decide +kernel
theorem dX8_takeYesOrNo_32 : decode cX8_takeYesOrNo 32 = .ok (.aload_n 0, 1) := by decide +kernel
theorem dX8_takeYesOrNo_33 : decode cX8_takeYesOrNo 33 = .ok (.aload_n 0, 1) := by decide +kernel
theorem dX8_takeYesOrNo_34 : decode cX8_takeYesOrNo 34 = .ok (.getfield 9, 3) := by decide +kernel
theorem dX8_takeYesOrNo_37 : decode cX8_takeYesOrNo 37 = .ok (.getstatic 45, 3) := by decide +kernel
theorem dX8_takeYesOrNo_40 : decode cX8_takeYesOrNo 40 = .ok (.invokevirtual 51, 3) := by decide +kernel
theorem dX8_takeYesOrNo_43 : decode cX8_takeYesOrNo 43 = .ok (.ifCond .eq 7, 3) := by decide +kernel
theorem dX8_takeYesOrNo_46 : decode cX8_takeYesOrNo 46 = .ok (.iconst 1, 1) := by decide +kernel
theorem dX8_takeYesOrNo_47 : decode cX8_takeYesOrNo 47 = .ok (.goto 4, 3) := by decide +kernel
theorem dX8_takeYesOrNo_50 : decode cX8_takeYesOrNo 50 = .ok (.iconst (-1), 1) := by decide +kernel
theorem dX8_takeYesOrNo_51 : decode cX8_takeYesOrNo 51 = .ok (.putfield 42, 3) := by decide +kernel
theorem dX8_takeYesOrNo_54 : decode cX8_takeYesOrNo 54 = .ok (.aload_n 0, 1) := by decide +kernel
theorem dX8_takeYesOrNo_55 : decode cX8_takeYesOrNo 55 = .ok (.getfield 9, 3) := by decide +kernel
theorem dX8_takeYesOrNo_58 : decode cX8_takeYesOrNo 58 = .ok (.invokevirtual 33, 3) := by decide +kernel
theorem dX8_takeYesOrNo_61 : decode cX8_takeYesOrNo 61 = .ok (.iconst 1, 1) := by decide +kernel
theorem dX8_takeYesOrNo_62 : decode cX8_takeYesOrNo 62 = .ok (.ireturn, 1) := by decide +kernel
theorem dX8_seeMan_0 : decode cX8_seeMan 0 = .ok (.aload_n 0, 1) := by decide +kernel
theorem dX8_seeMan_1 : decode cX8_seeMan 1 = .ok (.getfield 9, 3) := by decide +kernel
theorem dX8_seeMan_4 : decode cX8_seeMan 4 = .ok (.getfield 36, 3) := by decide +kernel
theorem dX8_seeMan_7 : decode cX8_seeMan 7 = .ok (.iconst 2, 1) := by decide +kernel
theorem dX8_seeMan_8 : decode cX8_seeMan 8 = .ok (.if_icmp .ne 16, 3) := by decide +kernel
theorem dX8_seeMan_11 : decode cX8_seeMan 11 = .ok (.aload_n 0, 1) := by decide +kernel
theorem dX8_seeMan_12 : decode cX8_seeMan 12 = .ok (.getfield 9, 3) := by decide +kernel
theorem dX8_seeMan_15 : decode cX8_seeMan 15 = .ok (.getfield 58, 3) := by decide +kernel
theorem dX8_seeMan_18 : decode cX8_seeMan 18 = .ok (.invokestatic 62, 3) := by decide +kernel
theorem dX8_seeMan_21 : decode cX8_seeMan 21 = .ok (.ifCond .eq 9, 3) := by decide +kernel
theorem dX8_seeMan_24 : decode cX8_seeMan 24 = .ok (.aload_n 0, 1) := by decide +kernel
theorem dX8_seeMan_25 : decode cX8_seeMan 25 = .ok (.iconst 1, 1) := by decide +kernel
theorem dX8_seeMan_26 : decode cX8_seeMan 26 = .ok (.invokevirtual 29, 3) := by decide +kernel
theorem dX8_seeMan_29 : decode cX8_seeMan 29 = .ok (.ireturn, 1) := by decide +kernel
theorem dX8_seeMan_30 : decode cX8_seeMan 30 = .ok (.aload_n 0, 1) := by decide +kernel
theorem dX8_seeMan_31 : decode cX8_seeMan 31 = .ok (.aload_n 1, 1) := by decide +kernel
theorem dX8_seeMan_32 : decode cX8_seeMan 32 = .ok (.aload_n 0, 1) := by decide +kernel
theorem dX8_seeMan_33 : decode cX8_seeMan 33 = .ok (.getfield 9, 3) := by decide +kernel
theorem dX8_seeMan_36 : decode cX8_seeMan 36 = .ok (.getfield 58, 3) := by decide +kernel
theorem dX8_seeMan_39 : decode cX8_seeMan 39 = .ok (.invokevirtual 66, 3) := by decide +kernel
theorem dX8_seeMan_42 : decode cX8_seeMan 42 = .ok (.putfield 42, 3) := by decide +kernel
theorem dX8_seeMan_45 : decode cX8_seeMan 45 = .ok (.aload_n 0, 1) := by decide +kernel
theorem dX8_seeMan_46 : decode cX8_seeMan 46 = .ok (.getfield 42, 3) := by decide +kernel
theorem dX8_seeMan_49 : decode cX8_seeMan 49 = .ok (.iconst (-1), 1) := by decide +kernel
theorem dX8_seeMan_50 : decode cX8_seeMan 50 = .ok (.if_icmp .ne 11, 3) := by decide +kernel
theorem dX8_seeMan_53 : decode cX8_seeMan 53 = .ok (.aload_n 0, 1) := by decide +kernel
theorem dX8_seeMan_54 : decode cX8_seeMan 54 = .ok (.iconst 3, 1) := by decide +kernel
theorem dX8_seeMan_55 : decode cX8_seeMan 55 = .ok (.invokevirtual 29, 3) := by decide +kernel
theorem dX8_seeMan_58 : decode cX8_seeMan 58 = .ok (.ifCond .eq 7, 3) := by decide +kernel
theorem dX8_seeMan_61 : decode cX8_seeMan 61 = .ok (.iconst 1, 1) := by decide +kernel
theorem dX8_seeMan_62 : decode cX8_seeMan 62 = .ok (.goto 4, 3) := by decide +kernel
theorem dX8_seeMan_65 : decode cX8_seeMan 65 = .ok (.iconst 0, 1) := by decide +kernel
theorem dX8_seeMan_66 : decode cX8_seeMan 66 = .ok (.ireturn, 1) := by decide +kernel
theorem dX8_seeAsk_0 : decode cX8_seeAsk 0 = .ok (.aload_n 0, 1) := by decide +kernel
theorem dX8_seeAsk_1 : decode cX8_seeAsk 1 = .ok (.getfield 9, 3) := by decide +kernel
theorem dX8_seeAsk_4 : decode cX8_seeAsk 4 = .ok (.getfield 36, 3) := by decide +kernel
theorem dX8_seeAsk_7 : decode cX8_seeAsk 7 = .ok (.iconst 2, 1) := by decide +kernel
theorem dX8_seeAsk_8 : decode cX8_seeAsk 8 = .ok (.if_icmp .ne 16, 3) := by decide +kernel
theorem dX8_seeAsk_11 : decode cX8_seeAsk 11 = .ok (.aload_n 0, 1) := by decide +kernel
theorem dX8_seeAsk_12 : decode cX8_seeAsk 12 = .ok (.getfield 9, 3) := by decide +kernel
theorem dX8_seeAsk_15 : decode cX8_seeAsk 15 = .ok (.getfield 58, 3) := by decide +kernel
theorem dX8_seeAsk_18 : decode cX8_seeAsk 18 = .ok (.invokestatic 62, 3) := by decide +kernel
theorem dX8_seeAsk_21 : decode cX8_seeAsk 21 = .ok (.ifCond .eq 9, 3) := by decide +kernel
theorem dX8_seeAsk_24 : decode cX8_seeAsk 24 = .ok (.aload_n 0, 1) := by decide +kernel
theorem dX8_seeAsk_25 : decode cX8_seeAsk 25 = .ok (.iconst 1, 1) := by decide +kernel
theorem dX8_seeAsk_26 : decode cX8_seeAsk 26 = .ok (.invokevirtual 29, 3) := by decide +kernel
theorem dX8_seeAsk_29 : decode cX8_seeAsk 29 = .ok (.ireturn, 1) := by decide +kernel
theorem dX8_seeAsk_30 : decode cX8_seeAsk 30 = .ok (.aload_n 0, 1) := by decide +kernel
theorem dX8_seeAsk_31 : decode cX8_seeAsk 31 = .ok (.aload_n 1, 1) := by decide +kernel
theorem dX8_seeAsk_32 : decode cX8_seeAsk 32 = .ok (.aload_n 0, 1) := by decide +kernel
theorem dX8_seeAsk_33 : decode cX8_seeAsk 33 = .ok (.getfield 9, 3) := by decide +kernel
theorem dX8_seeAsk_36 : decode cX8_seeAsk 36 = .ok (.getfield 58, 3) := by decide +kernel
theorem dX8_seeAsk_39 : decode cX8_seeAsk 39 = .ok (.invokevirtual 72, 3) := by decide +kernel
theorem dX8_seeAsk_42 : decode cX8_seeAsk 42 = .ok (.putfield 42, 3) := by decide +kernel
theorem dX8_seeAsk_45 : decode cX8_seeAsk 45 = .ok (.aload_n 0, 1) := by decide +kernel
theorem dX8_seeAsk_46 : decode cX8_seeAsk 46 = .ok (.getfield 42, 3) := by decide +kernel
theorem dX8_seeAsk_49 : decode cX8_seeAsk 49 = .ok (.iconst (-1), 1) := by decide +kernel
theorem dX8_seeAsk_50 : decode cX8_seeAsk 50 = .ok (.if_icmp .ne 11, 3) := by decide +kernel
theorem dX8_seeAsk_53 : decode cX8_seeAsk 53 = .ok (.aload_n 0, 1) := by decide +kernel
theorem dX8_seeAsk_54 : decode cX8_seeAsk 54 = .ok (.iconst 3, 1) := by decide +kernel
theorem dX8_seeAsk_55 : decode cX8_seeAsk 55 = .ok (.invokevirtual 29, 3) := by decide +kernel
theorem dX8_seeAsk_58 : decode cX8_seeAsk 58 = .ok (.ifCond .eq 7, 3) := by decide +kernel
theorem dX8_seeAsk_61 : decode cX8_seeAsk 61 = .ok (.iconst 1, 1) := by decide +kernel
theorem dX8_seeAsk_62 : decode cX8_seeAsk 62 = .ok (.goto 4, 3) := by decide +kernel
theorem dX8_seeAsk_65 : decode cX8_seeAsk 65 = .ok (.iconst 0, 1) := by decide +kernel
theorem dX8_seeAsk_66 : decode cX8_seeAsk 66 = .ok (.ireturn, 1) := by decide +kernel
theorem dX9_isKept_0 : decode cX9_isKept 0 = .ok (.iconst 0, 1) := by decide +kernel
theorem dX9_isKept_1 : decode cX9_isKept 1 = .ok (.istore_n 2, 1) := by decide +kernel
theorem dX9_isKept_2 : decode cX9_isKept 2 = .ok (.iload_n 2, 1) := by decide +kernel
theorem dX9_isKept_3 : decode cX9_isKept 3 = .ok (.getstatic 113, 3) := by decide +kernel
theorem dX9_isKept_6 : decode cX9_isKept 6 = .ok (.arraylength, 1) := by decide +kernel
theorem dX9_isKept_7 : decode cX9_isKept 7 = .ok (.if_icmp .ge 24, 3) := by decide +kernel
theorem dX9_isKept_10 : decode cX9_isKept 10 = .ok (.getstatic 113, 3) := by decide +kernel
theorem dX9_isKept_13 : decode cX9_isKept 13 = .ok (.iload_n 2, 1) := by decide +kernel
theorem dX9_isKept_14 : decode cX9_isKept 14 = .ok (.aaload, 1) := by decide +kernel
theorem dX9_isKept_15 : decode cX9_isKept 15 = .ok (.getfield 109, 3) := by decide +kernel
theorem dX9_isKept_18 : decode cX9_isKept 18 = .ok (.lload_n 0, 1) := by decide +kernel
theorem dX9_isKept_19 : decode cX9_isKept 19 = .ok (.lcmp, 1) := by decide +kernel
theorem dX9_isKept_20 : decode cX9_isKept 20 = .ok (.ifCond .ne 5, 3) := by decide +kernel
theorem dX9_isKept_23 : decode cX9_isKept 23 = .ok (.iconst 1, 1) := by decide +kernel
theorem dX9_isKept_24 : decode cX9_isKept 24 = .ok (.ireturn, 1) := by decide +kernel
theorem dX9_isKept_25 : decode cX9_isKept 25 = .ok (.iinc 2 1, 3) := by decide +kernel
theorem dX9_isKept_28 : decode cX9_isKept 28 = .ok (.goto (-26), 3) := by decide +kernel
theorem dX9_isKept_31 : decode cX9_isKept 31 = .ok (.iconst 0, 1) := by decide +kernel
theorem dX9_isKept_32 : decode cX9_isKept 32 = .ok (.ireturn, 1) := by decide +kernel
theorem dX10_init_0 : decode cX10_init 0 = .ok (.aload_n 0, 1) := by decide +kernel
theorem dX10_init_1 : decode cX10_init 1 = .ok (.invokespecial 3, 3) := by decide +kernel
theorem dX10_init_4 : decode cX10_init 4 = .ok (.aload_n 0, 1) := by decide +kernel
theorem dX10_init_5 : decode cX10_init 5 = .ok (.new 9, 3) := by decide +kernel
theorem dX10_init_8 : decode cX10_init 8 = .ok (.dup, 1) := by decide +kernel
theorem dX10_init_9 : decode cX10_init 9 = .ok (.invokespecial 11, 3) := by decide +kernel
theorem dX10_init_12 : decode cX10_init 12 = .ok (.putfield 12, 3) := by decide +kernel
theorem dX10_init_15 : decode cX10_init 15 = .ok (.aload_n 0, 1) := by decide +kernel
theorem dX10_init_16 : decode cX10_init 16 = .ok (.new 18, 3) := by decide +kernel
theorem dX10_init_19 : decode cX10_init 19 = .ok (.dup, 1) := by decide +kernel
theorem dX10_init_20 : decode cX10_init 20 = .ok (.invokespecial 20, 3) := by decide +kernel
theorem dX10_init_23 : decode cX10_init 23 = .ok (.putfield 21, 3) := by decide +kernel
theorem dX10_init_26 : decode cX10_init 26 = .ok (.aload_n 0, 1) := by decide +kernel
theorem dX10_init_27 : decode cX10_init 27 = .ok (.new 25, 3) := by decide +kernel
theorem dX10_init_30 : decode cX10_init 30 = .ok (.dup, 1) := by decide +kernel
theorem dX10_init_31 : decode cX10_init 31 = .ok (.invokespecial 27, 3) := by decide +kernel
theorem dX10_init_34 : decode cX10_init 34 = .ok (.putfield 28, 3) := by decide +kernel
theorem dX10_init_37 : decode cX10_init 37 = .ok (.return_, 1) := by decide +kernel
theorem dX10_begin_0 : decode cX10_begin 0 = .ok (.aload_n 0, 1) := by decide +kernel
theorem dX10_begin_1 : decode cX10_begin 1 = .ok (.getfield 12, 3) := by decide +kernel
theorem dX10_begin_4 : decode cX10_begin 4 = .ok (.aload_n 1, 1) := by decide +kernel
theorem dX10_begin_5 : decode cX10_begin 5 = .ok (.invokevirtual 32, 3) := by decide +kernel
theorem dX10_begin_8 : decode cX10_begin 8 = .ok (.aload_n 0, 1) := by decide +kernel
theorem dX10_begin_9 : decode cX10_begin 9 = .ok (.getfield 21, 3) := by decide +kernel
theorem dX10_begin_12 : decode cX10_begin 12 = .ok (.aload_n 0, 1) := by decide +kernel
theorem dX10_begin_13 : decode cX10_begin 13 = .ok (.getfield 12, 3) := by decide +kernel
theorem dX10_begin_16 : decode cX10_begin 16 = .ok (.invokevirtual 36, 3) := by decide +kernel
theorem dX10_begin_19 : decode cX10_begin 19 = .ok (.aload_n 0, 1) := by decide +kernel
theorem dX10_begin_20 : decode cX10_begin 20 = .ok (.getfield 28, 3) := by decide +kernel
theorem dX10_begin_23 : decode cX10_begin 23 = .ok (.iconst 0, 1) := by decide +kernel
theorem dX10_begin_24 : decode cX10_begin 24 = .ok (.putfield 39, 3) := by decide +kernel
theorem dX10_begin_27 : decode cX10_begin 27 = .ok (.return_, 1) := by decide +kernel
theorem dX10_copyFrom_0 : decode cX10_copyFrom 0 = .ok (.aload_n 0, 1) := by decide +kernel
theorem dX10_copyFrom_1 : decode cX10_copyFrom 1 = .ok (.getfield 12, 3) := by decide +kernel
theorem dX10_copyFrom_4 : decode cX10_copyFrom 4 = .ok (.aload_n 1, 1) := by decide +kernel
theorem dX10_copyFrom_5 : decode cX10_copyFrom 5 = .ok (.getfield 12, 3) := by decide +kernel
theorem dX10_copyFrom_8 : decode cX10_copyFrom 8 = .ok (.invokevirtual 32, 3) := by decide +kernel
theorem dX10_copyFrom_11 : decode cX10_copyFrom 11 = .ok (.aload_n 0, 1) := by decide +kernel
theorem dX10_copyFrom_12 : decode cX10_copyFrom 12 = .ok (.getfield 21, 3) := by decide +kernel
theorem dX10_copyFrom_15 : decode cX10_copyFrom 15 = .ok (.aload_n 1, 1) := by decide +kernel
theorem dX10_copyFrom_16 : decode cX10_copyFrom 16 = .ok (.getfield 21, 3) := by decide +kernel
theorem dX10_copyFrom_19 : decode cX10_copyFrom 19 = .ok (.invokevirtual 43, 3) := by decide +kernel
theorem dX10_copyFrom_22 : decode cX10_copyFrom 22 = .ok (.aload_n 0, 1) := by decide +kernel
theorem dX10_copyFrom_23 : decode cX10_copyFrom 23 = .ok (.getfield 28, 3) := by decide +kernel
theorem dX10_copyFrom_26 : decode cX10_copyFrom 26 = .ok (.aload_n 1, 1) := by decide +kernel
theorem dX10_copyFrom_27 : decode cX10_copyFrom 27 = .ok (.getfield 28, 3) := by decide +kernel
theorem dX10_copyFrom_30 : decode cX10_copyFrom 30 = .ok (.invokevirtual 46, 3) := by decide +kernel
theorem dX10_copyFrom_33 : decode cX10_copyFrom 33 = .ok (.return_, 1) := by decide +kernel
theorem dX10_hasMan_0 : decode cX10_hasMan 0 = .ok (.iload_n 1, 1) := by decide +kernel
theorem dX10_hasMan_1 : decode cX10_hasMan 1 = .ok (.ifCond .lt 18, 3) := by decide +kernel
theorem dX10_hasMan_4 : decode cX10_hasMan 4 = .ok (.iload_n 1, 1) := by decide +kernel
theorem dX10_hasMan_5 : decode cX10_hasMan 5 = .ok (.aload_n 0, 1) := by decide +kernel
theorem dX10_hasMan_6 : decode cX10_hasMan 6 = .ok (.getfield 12, 3) := by decide +kernel
theorem dX10_hasMan_9 : decode cX10_hasMan 9 = .ok (.getfield 49, 3) := by decide +kernel
theorem dX10_hasMan_12 : decode cX10_hasMan 12 = .ok (.if_icmp .ge 7, 3) := by decide +kernel
theorem dX10_hasMan_15 : decode cX10_hasMan 15 = .ok (.iconst 1, 1) := by decide +kernel
theorem dX10_hasMan_16 : decode cX10_hasMan 16 = .ok (.goto 4, 3) := by decide +kernel
theorem dX10_hasMan_19 : decode cX10_hasMan 19 = .ok (.iconst 0, 1) := by decide +kernel
theorem dX10_hasMan_20 : decode cX10_hasMan 20 = .ok (.ireturn, 1) := by decide +kernel
