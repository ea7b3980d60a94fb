theorem dX12_fresh_0 : decode cX12_fresh 0 = .ok (.aload_n 0, 1) := by decide +kernel
theorem dX12_fresh_1 : decode cX12_fresh 1 = .ok (.invokevirtual 196, 3) := by decide +kernel
theorem dX12_fresh_4 : decode cX12_fresh 4 = .ok (.ifCond .ne 9, 3) := by decide +kernel
theorem dX12_fresh_7 : decode cX12_fresh 7 = .ok (.aload_n 0, 1) := by decide +kernel
theorem dX12_fresh_8 : decode cX12_fresh 8 = .ok (.iconst 1, 1) := by decide +kernel
theorem dX12_fresh_9 : decode cX12_fresh 9 = .ok (.invokevirtual 183, 3) := by decide +kernel
theorem dX12_fresh_12 : decode cX12_fresh 12 = .ok (.ireturn, 1) := by decide +kernel
theorem dX12_fresh_13 : decode cX12_fresh 13 = .ok (.aload_n 0, 1) := by decide +kernel
theorem dX12_fresh_14 : decode cX12_fresh 14 = .ok (.bipush 19, 2) := by decide +kernel
theorem dX12_fresh_16 : decode cX12_fresh 16 = .ok (.aload_n 0, 1) := by decide +kernel
theorem dX12_fresh_17 : decode cX12_fresh 17 = .ok (.getfield 37, 3) := by decide +kernel
theorem dX12_fresh_20 : decode cX12_fresh 20 = .ok (.iconst 0, 1) := by decide +kernel
theorem dX12_fresh_21 : decode cX12_fresh 21 = .ok (.iaload, 1) := by decide +kernel
theorem dX12_fresh_22 : decode cX12_fresh 22 = .ok (.invokevirtual 200, 3) := by decide +kernel
theorem dX12_fresh_25 : decode cX12_fresh 25 = .ok (.ifCond .ge 18, 3) := by decide +kernel
theorem dX12_fresh_28 : decode cX12_fresh 28 = .ok (.aload_n 0, 1) := by decide +kernel
theorem dX12_fresh_29 : decode cX12_fresh 29 = .ok (.bipush 28, 2) := by decide +kernel
theorem dX12_fresh_31 : decode cX12_fresh 31 = .ok (.aload_n 0, 1) := by decide +kernel
theorem dX12_fresh_32 : decode cX12_fresh 32 = .ok (.getfield 37, 3) := by decide +kernel
theorem dX12_fresh_35 : decode cX12_fresh 35 = .ok (.iconst 1, 1) := by decide +kernel
theorem dX12_fresh_36 : decode cX12_fresh 36 = .ok (.iaload, 1) := by decide +kernel
theorem dX12_fresh_37 : decode cX12_fresh 37 = .ok (.invokevirtual 200, 3) := by decide +kernel
theorem dX12_fresh_40 : decode cX12_fresh 40 = .ok (.ifCond .lt 9, 3) := by decide +kernel
theorem dX12_fresh_43 : decode cX12_fresh 43 = .ok (.aload_n 0, 1) := by decide +kernel
theorem dX12_fresh_44 : decode cX12_fresh 44 = .ok (.iconst 3, 1) := by decide +kernel
theorem dX12_fresh_45 : decode cX12_fresh 45 = .ok (.invokevirtual 183, 3) := by decide +kernel
theorem dX12_fresh_48 : decode cX12_fresh 48 = .ok (.ireturn, 1) := by decide +kernel
theorem dX12_fresh_49 : decode cX12_fresh 49 = .ok (.aload_n 0, 1) := by decide +kernel
theorem dX12_fresh_50 : decode cX12_fresh 50 = .ok (.getfield 43, 3) := by decide +kernel
theorem dX12_fresh_53 : decode cX12_fresh 53 = .ok (.iload_n 1, 1) := by decide +kernel
theorem dX12_fresh_54 : decode cX12_fresh 54 = .ok (.aload_n 0, 1) := by decide +kernel
theorem dX12_fresh_55 : decode cX12_fresh 55 = .ok (.getfield 170, 3) := by decide +kernel
theorem dX12_fresh_58 : decode cX12_fresh 58 = .ok (.lastore, 1) := by decide +kernel
theorem dX12_fresh_59 : decode cX12_fresh 59 = .ok (.aload_n 0, 1) := by decide +kernel
theorem dX12_fresh_60 : decode cX12_fresh 60 = .ok (.invokevirtual 186, 3) := by decide +kernel
theorem dX12_fresh_63 : decode cX12_fresh 63 = .ok (.iconst 1, 1) := by decide +kernel
theorem dX12_fresh_64 : decode cX12_fresh 64 = .ok (.ireturn, 1) := by decide +kernel
theorem dX12_looksAt_0 : decode cX12_looksAt 0 = .ok (.aload_n 0, 1) := by decide +kernel
theorem dX12_looksAt_1 : decode cX12_looksAt 1 = .ok (.invokevirtual 196, 3) := by decide +kernel
theorem dX12_looksAt_4 : decode cX12_looksAt 4 = .ok (.ifCond .ne 9, 3) := by decide +kernel
theorem dX12_looksAt_7 : decode cX12_looksAt 7 = .ok (.aload_n 0, 1) := by decide +kernel
theorem dX12_looksAt_8 : decode cX12_looksAt 8 = .ok (.iconst 1, 1) := by decide +kernel
theorem dX12_looksAt_9 : decode cX12_looksAt 9 = .ok (.invokevirtual 183, 3) := by decide +kernel
theorem dX12_looksAt_12 : decode cX12_looksAt 12 = .ok (.ireturn, 1) := by decide +kernel
theorem dX12_looksAt_13 : decode cX12_looksAt 13 = .ok (.aload_n 0, 1) := by decide +kernel
theorem dX12_looksAt_14 : decode cX12_looksAt 14 = .ok (.aload_n 0, 1) := by decide +kernel
theorem dX12_looksAt_15 : decode cX12_looksAt 15 = .ok (.iload_n 1, 1) := by decide +kernel
theorem dX12_looksAt_16 : decode cX12_looksAt 16 = .ok (.iload_n 2, 1) := by decide +kernel
theorem dX12_looksAt_17 : decode cX12_looksAt 17 = .ok (.invokevirtual 200, 3) := by decide +kernel
theorem dX12_looksAt_20 : decode cX12_looksAt 20 = .ok (.putfield 193, 3) := by decide +kernel
theorem dX12_looksAt_23 : decode cX12_looksAt 23 = .ok (.aload_n 0, 1) := by decide +kernel
theorem dX12_looksAt_24 : decode cX12_looksAt 24 = .ok (.getfield 193, 3) := by decide +kernel
theorem dX12_looksAt_27 : decode cX12_looksAt 27 = .ok (.ifCond .ge 11, 3) := by decide +kernel
theorem dX12_looksAt_30 : decode cX12_looksAt 30 = .ok (.aload_n 0, 1) := by decide +kernel
theorem dX12_looksAt_31 : decode cX12_looksAt 31 = .ok (.iconst 3, 1) := by decide +kernel
theorem dX12_looksAt_32 : decode cX12_looksAt 32 = .ok (.invokevirtual 183, 3) := by decide +kernel
theorem dX12_looksAt_35 : decode cX12_looksAt 35 = .ok (.ifCond .eq 7, 3) := by decide +kernel
theorem dX12_looksAt_38 : decode cX12_looksAt 38 = .ok (.iconst 1, 1) := by decide +kernel
theorem dX12_looksAt_39 : decode cX12_looksAt 39 = .ok (.goto 4, 3) := by decide +kernel
theorem dX12_looksAt_42 : decode cX12_looksAt 42 = .ok (.iconst 0, 1) := by decide +kernel
theorem dX12_looksAt_43 : decode cX12_looksAt 43 = .ok (.ireturn, 1) := by decide +kernel
theorem dX12_takesName_0 : decode cX12_takesName 0 = .ok (.aload_n 0, 1) := by decide +kernel
theorem dX12_takesName_1 : decode cX12_takesName 1 = .ok (.iload_n 1, 1) := by decide +kernel
theorem dX12_takesName_2 : decode cX12_takesName 2 = .ok (.iload_n 2, 1) := by decide +kernel
theorem dX12_takesName_3 : decode cX12_takesName 3 = .ok (.invokevirtual 204, 3) := by decide +kernel
theorem dX12_takesName_6 : decode cX12_takesName 6 = .ok (.ifCond .ne 5, 3) := by decide +kernel
theorem dX12_takesName_9 : decode cX12_takesName 9 = .ok (.iconst 0, 1) := by decide +kernel
theorem dX12_takesName_10 : decode cX12_takesName 10 = .ok (.ireturn, 1) := by decide +kernel
theorem dX12_takesName_11 : decode cX12_takesName 11 = .ok (.aload_n 0, 1) := by decide +kernel
theorem dX12_takesName_12 : decode cX12_takesName 12 = .ok (.invokevirtual 186, 3) := by decide +kernel
theorem dX12_takesName_15 : decode cX12_takesName 15 = .ok (.iconst 1, 1) := by decide +kernel
theorem dX12_takesName_16 : decode cX12_takesName 16 = .ok (.ireturn, 1) := by decide +kernel
theorem dX12_takesMind_0 : decode cX12_takesMind 0 = .ok (.aload_n 0, 1) := by decide +kernel
theorem dX12_takesMind_1 : decode cX12_takesMind 1 = .ok (.ldc2_w 113, 3) := by decide +kernel
theorem dX12_takesMind_4 : decode cX12_takesMind 4 = .ok (.invokevirtual 208, 3) := by decide +kernel
theorem dX12_takesMind_7 : decode cX12_takesMind 7 = .ok (.istore_n 2, 1) := by decide +kernel
theorem dX12_takesMind_8 : decode cX12_takesMind 8 = .ok (.iload_n 2, 1) := by decide +kernel
theorem dX12_takesMind_9 : decode cX12_takesMind 9 = .ok (.ifCond .ne 19, 3) := by decide +kernel
theorem dX12_takesMind_12 : decode cX12_takesMind 12 = .ok (.aload_n 0, 1) := by decide +kernel
theorem dX12_takesMind_13 : decode cX12_takesMind 13 = .ok (.ldc2_w 111, 3) := by decide +kernel
theorem dX12_takesMind_16 : decode cX12_takesMind 16 = .ok (.invokevirtual 208, 3) := by decide +kernel
theorem dX12_takesMind_19 : decode cX12_takesMind 19 = .ok (.ifCond .ne 9, 3) := by decide +kernel
theorem dX12_takesMind_22 : decode cX12_takesMind 22 = .ok (.aload_n 0, 1) := by decide +kernel
theorem dX12_takesMind_23 : decode cX12_takesMind 23 = .ok (.iconst 1, 1) := by decide +kernel
theorem dX12_takesMind_24 : decode cX12_takesMind 24 = .ok (.invokevirtual 183, 3) := by decide +kernel
theorem dX12_takesMind_27 : decode cX12_takesMind 27 = .ok (.ireturn, 1) := by decide +kernel
theorem dX12_takesMind_28 : decode cX12_takesMind 28 = .ok (.aload_n 0, 1) := by decide +kernel
theorem dX12_takesMind_29 : decode cX12_takesMind 29 = .ok (.invokevirtual 186, 3) := by decide +kernel
theorem dX12_takesMind_32 : decode cX12_takesMind 32 = .ok (.aload_n 0, 1) := by decide +kernel
theorem dX12_takesMind_33 : decode cX12_takesMind 33 = .ok (.iload_n 1, 1) := by decide +kernel
theorem dX12_takesMind_34 : decode cX12_takesMind 34 = .ok (.bipush 9, 2) := by decide +kernel
theorem dX12_takesMind_36 : decode cX12_takesMind 36 = .ok (.invokevirtual 212, 3) := by decide +kernel
theorem dX12_takesMind_39 : decode cX12_takesMind 39 = .ok (.ifCond .ne 5, 3) := by decide +kernel
theorem dX12_takesMind_42 : decode cX12_takesMind 42 = .ok (.iconst 0, 1) := by decide +kernel
theorem dX12_takesMind_43 : decode cX12_takesMind 43 = .ok (.ireturn, 1) := by decide +kernel
theorem dX12_takesMind_44 : decode cX12_takesMind 44 = .ok (.aload_n 0, 1) := by decide +kernel
theorem dX12_takesMind_45 : decode cX12_takesMind 45 = .ok (.iload_n 2, 1) := by decide +kernel
theorem dX12_takesMind_46 : decode cX12_takesMind 46 = .ok (.ifCond .eq 11, 3) := by decide +kernel
theorem dX12_takesMind_49 : decode cX12_takesMind 49 = .ok (.aload_n 0, 1) := by decide +kernel
theorem dX12_takesMind_50 : decode cX12_takesMind 50 = .ok (.getfield 193, 3) := by decide +kernel
theorem dX12_takesMind_53 : decode cX12_takesMind 53 = .ok (.ineg, 1) := by decide +kernel
theorem dX12_takesMind_54 : decode cX12_takesMind 54 = .ok (.goto 7, 3) := by decide +kernel
theorem dX12_takesMind_57 : decode cX12_takesMind 57 = .ok (.aload_n 0, 1) := by decide +kernel
theorem dX12_takesMind_58 : decode cX12_takesMind 58 = .ok (.getfield 193, 3) := by decide +kernel
theorem dX12_takesMind_61 : decode cX12_takesMind 61 = .ok (.putfield 215, 3) := by decide +kernel
theorem dX12_takesMind_64 : decode cX12_takesMind 64 = .ok (.iconst 1, 1) := by decide +kernel
theorem dX12_takesMind_65 : decode cX12_takesMind 65 = .ok (.ireturn, 1) := by decide +kernel
theorem dX12_once_0 : decode cX12_once 0 = .ok (.aload_n 0, 1) := by decide +kernel
theorem dX12_once_1 : decode cX12_once 1 = .ok (.getfield 218, 3) := by decide +kernel
theorem dX12_once_4 : decode cX12_once 4 = .ok (.iload_n 1, 1) := by decide +kernel
theorem dX12_once_5 : decode cX12_once 5 = .ok (.invokestatic 221, 3) := by decide +kernel
theorem dX12_once_8 : decode cX12_once 8 = .ok (.ifCond .eq 9, 3) := by decide +kernel
theorem dX12_once_11 : decode cX12_once 11 = .ok (.aload_n 0, 1) := by decide +kernel
theorem dX12_once_12 : decode cX12_once 12 = .ok (.iconst 3, 1) := by decide +kernel
theorem dX12_once_13 : decode cX12_once 13 = .ok (.invokevirtual 183, 3) := by decide +kernel
theorem dX12_once_16 : decode cX12_once 16 = .ok (.ireturn, 1) := by decide +kernel
theorem dX12_once_17 : decode cX12_once 17 = .ok (.aload_n 0, 1) := by decide +kernel
theorem dX12_once_18 : decode cX12_once 18 = .ok (.dup, 1) := by decide +kernel
theorem dX12_once_19 : decode cX12_once 19 = .ok (.getfield 218, 3) := by decide +kernel
theorem dX12_once_22 : decode cX12_once 22 = .ok (.iconst 1, 1) := by decide +kernel
theorem dX12_once_23 : decode cX12_once 23 = .ok (.iload_n 1, 1) := by decide +kernel
theorem dX12_once_24 : decode cX12_once 24 = .ok (.ishl, 1) := by decide +kernel
theorem dX12_once_25 : decode cX12_once 25 = .ok (.ior, 1) := by decide +kernel
theorem dX12_once_26 : decode cX12_once 26 = .ok (.putfield 218, 3) := by decide +kernel
theorem dX12_once_29 : decode cX12_once 29 = .ok (.aload_n 0, 1) := by decide +kernel
theorem dX12_once_30 : decode cX12_once 30 = .ok (.invokevirtual 186, 3) := by decide +kernel
theorem dX12_once_33 : decode cX12_once 33 = .ok (.aload_n 0, 1) := by decide +kernel
theorem dX12_once_34 : decode cX12_once 34 = .ok (.iload_n 3, 1) := by decide +kernel
theorem dX12_once_35 : decode cX12_once 35 = .ok (.iload 4, 2) := by decide +kernel
theorem dX12_once_37 : decode cX12_once 37 = .ok (.invokevirtual 212, 3) := by decide +kernel
theorem dX12_once_40 : decode cX12_once 40 = .ok (.ifCond .ne 5, 3) := by decide +kernel
theorem dX12_once_43 : decode cX12_once 43 = .ok (.iconst 0, 1) := by decide +kernel
theorem dX12_once_44 : decode cX12_once 44 = .ok (.ireturn, 1) := by decide +kernel
theorem dX12_once_45 : decode cX12_once 45 = .ok (.aload_n 0, 1) := by decide +kernel
theorem dX12_once_46 : decode cX12_once 46 = .ok (.getfield 37, 3) := by decide +kernel
theorem dX12_once_49 : decode cX12_once 49 = .ok (.iload_n 2, 1) := by decide +kernel
theorem dX12_once_50 : decode cX12_once 50 = .ok (.aload_n 0, 1) := by decide +kernel
theorem dX12_once_51 : decode cX12_once 51 = .ok (.getfield 193, 3) := by decide +kernel
theorem dX12_once_54 : decode cX12_once 54 = .ok (.iastore, 1) := by decide +kernel
theorem dX12_once_55 : decode cX12_once 55 = .ok (.iconst 1, 1) := by decide +kernel
theorem dX12_once_56 : decode cX12_once 56 = .ok (.ireturn, 1) := by decide +kernel
theorem dX12_line_0 : decode cX12_line 0 = .ok (.aload_n 0, 1) := by decide +kernel
theorem dX12_line_1 : decode cX12_line 1 = .ok (.ldc2_w 99, 3) := by decide +kernel
theorem dX12_line_4 : decode cX12_line 4 = .ok (.invokevirtual 208, 3) := by decide +kernel
theorem dX12_line_7 : decode cX12_line 7 = .ok (.ifCond .eq 13, 3) := by decide +kernel
theorem dX12_line_10 : decode cX12_line 10 = .ok (.aload_n 0, 1) := by decide +kernel
theorem dX12_line_11 : decode cX12_line 11 = .ok (.iconst 0, 1) := by decide +kernel
theorem dX12_line_12 : decode cX12_line 12 = .ok (.iconst 2, 1) := by decide +kernel
theorem dX12_line_13 : decode cX12_line 13 = .ok (.iconst 1, 1) := by decide +kernel
theorem dX12_line_14 : decode cX12_line 14 = .ok (.bipush 8, 2) := by decide +kernel
theorem dX12_line_16 : decode cX12_line 16 = .ok (.invokevirtual 224, 3) := by decide +kernel
theorem dX12_line_19 : decode cX12_line 19 = .ok (.ireturn, 1) := by decide +kernel
theorem dX12_line_20 : decode cX12_line 20 = .ok (.aload_n 0, 1) := by decide +kernel
theorem dX12_line_21 : decode cX12_line 21 = .ok (.ldc2_w 101, 3) := by decide +kernel
theorem dX12_line_24 : decode cX12_line 24 = .ok (.invokevirtual 208, 3) := by decide +kernel
theorem dX12_line_27 : decode cX12_line 27 = .ok (.ifCond .eq 13, 3) := by decide +kernel
theorem dX12_line_30 : decode cX12_line 30 = .ok (.aload_n 0, 1) := by decide +kernel
theorem dX12_line_31 : decode cX12_line 31 = .ok (.iconst 1, 1) := by decide +kernel
theorem dX12_line_32 : decode cX12_line 32 = .ok (.iconst 3, 1) := by decide +kernel
theorem dX12_line_33 : decode cX12_line 33 = .ok (.iconst 0, 1) := by decide +kernel
theorem dX12_line_34 : decode cX12_line 34 = .ok (.bipush 9, 2) := by decide +kernel
theorem dX12_line_36 : decode cX12_line 36 = .ok (.invokevirtual 224, 3) := by decide +kernel
theorem dX12_line_39 : decode cX12_line 39 = .ok (.ireturn, 1) := by decide +kernel
theorem dX12_line_40 : decode cX12_line 40 = .ok (.aload_n 0, 1) := by decide +kernel
theorem dX12_line_41 : decode cX12_line 41 = .ok (.ldc2_w 103, 3) := by decide +kernel
theorem dX12_line_44 : decode cX12_line 44 = .ok (.invokevirtual 208, 3) := by decide +kernel
theorem dX12_line_47 : decode cX12_line 47 = .ok (.ifCond .eq 54, 3) := by decide +kernel
theorem dX12_line_50 : decode cX12_line 50 = .ok (.aload_n 0, 1) := by decide +kernel
theorem dX12_line_51 : decode cX12_line 51 = .ok (.getfield 37, 3) := by decide +kernel
theorem dX12_line_54 : decode cX12_line 54 = .ok (.iconst 0, 1) := by decide +kernel
theorem dX12_line_55 : decode cX12_line 55 = .ok (.iaload, 1) := by decide +kernel
theorem dX12_line_56 : decode cX12_line 56 = .ok (.bipush 9, 2) := by decide +kernel
theorem dX12_line_58 : decode cX12_line 58 = .ok (.if_icmp .ne 9, 3) := by decide +kernel
theorem dX12_line_61 : decode cX12_line 61 = .ok (.aload_n 0, 1) := by decide +kernel
theorem dX12_line_62 : decode cX12_line 62 = .ok (.iconst 4, 1) := by decide +kernel
theorem dX12_line_63 : decode cX12_line 63 = .ok (.invokevirtual 183, 3) := by decide +kernel
theorem dX12_line_66 : decode cX12_line 66 = .ok (.ireturn, 1) := by decide +kernel
theorem dX12_line_67 : decode cX12_line 67 = .ok (.aload_n 0, 1) := by decide +kernel
theorem dX12_line_68 : decode cX12_line 68 = .ok (.invokevirtual 186, 3) := by decide +kernel
theorem dX12_line_71 : decode cX12_line 71 = .ok (.aload_n 0, 1) := by decide +kernel
theorem dX12_line_72 : decode cX12_line 72 = .ok (.bipush 19, 2) := by decide +kernel
theorem dX12_line_74 : decode cX12_line 74 = .ok (.aload_n 0, 1) := by decide +kernel
theorem dX12_line_75 : decode cX12_line 75 = .ok (.getfield 37, 3) := by decide +kernel
theorem dX12_line_78 : decode cX12_line 78 = .ok (.iconst 0, 1) := by decide +kernel
theorem dX12_line_79 : decode cX12_line 79 = .ok (.iaload, 1) := by decide +kernel
theorem dX12_line_80 : decode cX12_line 80 = .ok (.iadd, 1) := by decide +kernel
theorem dX12_line_81 : decode cX12_line 81 = .ok (.invokevirtual 228, 3) := by decide +kernel
theorem dX12_line_84 : decode cX12_line 84 = .ok (.ifCond .ne 5, 3) := by decide +kernel
theorem dX12_line_87 : decode cX12_line 87 = .ok (.iconst 0, 1) := by decide +kernel
theorem dX12_line_88 : decode cX12_line 88 = .ok (.ireturn, 1) := by decide +kernel
theorem dX12_line_89 : decode cX12_line 89 = .ok (.aload_n 0, 1) := by decide +kernel
theorem dX12_line_90 : decode cX12_line 90 = .ok (.getfield 37, 3) := by decide +kernel
theorem dX12_line_93 : decode cX12_line 93 = .ok (.iconst 0, 1) := by decide +kernel
theorem dX12_line_94 : decode cX12_line 94 = .ok (.dup2, 1) := by decide +kernel
theorem dX12_line_95 : decode cX12_line 95 = .ok (.iaload, 1) := by decide +kernel
theorem dX12_line_96 : decode cX12_line 96 = .ok (.iconst 1, 1) := by decide +kernel
theorem dX12_line_97 : decode cX12_line 97 = .ok (.iadd, 1) := by decide +kernel
theorem dX12_line_98 : decode cX12_line 98 = .ok (.iastore, 1) := by decide +kernel
theorem dX12_line_99 : decode cX12_line 99 = .ok (.iconst 1, 1) := by decide +kernel
theorem dX12_line_100 : decode cX12_line 100 = .ok (.ireturn, 1) := by decide +kernel
theorem dX12_line_101 : decode cX12_line 101 = .ok (.aload_n 0, 1) := by decide +kernel
theorem dX12_line_102 : decode cX12_line 102 = .ok (.ldc2_w 105, 3) := by decide +kernel
theorem dX12_line_105 : decode cX12_line 105 = .ok (.invokevirtual 208, 3) := by decide +kernel
theorem dX12_line_108 : decode cX12_line 108 = .ok (.ifCond .eq 8, 3) := by decide +kernel
theorem dX12_line_111 : decode cX12_line 111 = .ok (.aload_n 0, 1) := by decide +kernel
theorem dX12_line_112 : decode cX12_line 112 = .ok (.invokevirtual 231, 3) := by decide +kernel
theorem dX12_line_115 : decode cX12_line 115 = .ok (.ireturn, 1) := by decide +kernel
theorem dX12_line_116 : decode cX12_line 116 = .ok (.aload_n 0, 1) := by decide +kernel
theorem dX12_line_117 : decode cX12_line 117 = .ok (.ldc2_w 107, 3) := by decide +kernel
theorem dX12_line_120 : decode cX12_line 120 = .ok (.invokevirtual 208, 3) := by decide +kernel
theorem dX12_line_123 : decode cX12_line 123 = .ok (.istore_n 1, 1) := by decide +kernel
theorem dX12_line_124 : decode cX12_line 124 = .ok (.iload_n 1, 1) := by decide +kernel
theorem dX12_line_125 : decode cX12_line 125 = .ok (.ifCond .ne 19, 3) := by decide +kernel
theorem dX12_line_128 : decode cX12_line 128 = .ok (.aload_n 0, 1) := by decide +kernel
theorem dX12_line_129 : decode cX12_line 129 = .ok (.ldc2_w 109, 3) := by decide +kernel
theorem dX12_line_132 : decode cX12_line 132 = .ok (.invokevirtual 208, 3) := by decide +kernel
theorem dX12_line_135 : decode cX12_line 135 = .ok (.ifCond .ne 9, 3) := by decide +kernel
theorem dX12_line_138 : decode cX12_line 138 = .ok (.aload_n 0, 1) := by decide +kernel
theorem dX12_line_139 : decode cX12_line 139 = .ok (.iconst 1, 1) := by decide +kernel
theorem dX12_line_140 : decode cX12_line 140 = .ok (.invokevirtual 183, 3) := by decide +kernel
theorem dX12_line_143 : decode cX12_line 143 = .ok (.ireturn, 1) := by decide +kernel
theorem dX12_line_144 : decode cX12_line 144 = .ok (.aload_n 0, 1) := by decide +kernel
theorem dX12_line_145 : decode cX12_line 145 = .ok (.invokevirtual 186, 3) := by decide +kernel
theorem dX12_line_148 : decode cX12_line 148 = .ok (.aload_n 0, 1) := by decide +kernel
theorem dX12_line_149 : decode cX12_line 149 = .ok (.bipush 28, 2) := by decide +kernel
theorem dX12_line_151 : decode cX12_line 151 = .ok (.aload_n 0, 1) := by decide +kernel
theorem dX12_line_152 : decode cX12_line 152 = .ok (.getfield 37, 3) := by decide +kernel
theorem dX12_line_155 : decode cX12_line 155 = .ok (.iconst 1, 1) := by decide +kernel
theorem dX12_line_156 : decode cX12_line 156 = .ok (.iaload, 1) := by decide +kernel
theorem dX12_line_157 : decode cX12_line 157 = .ok (.invokevirtual 204, 3) := by decide +kernel
theorem dX12_line_160 : decode cX12_line 160 = .ok (.ifCond .ne 5, 3) := by decide +kernel
theorem dX12_line_163 : decode cX12_line 163 = .ok (.iconst 0, 1) := by decide +kernel
theorem dX12_line_164 : decode cX12_line 164 = .ok (.ireturn, 1) := by decide +kernel
theorem dX12_line_165 : decode cX12_line 165 = .ok (.aload_n 0, 1) := by decide +kernel
theorem dX12_line_166 : decode cX12_line 166 = .ok (.getfield 193, 3) := by decide +kernel
theorem dX12_line_169 : decode cX12_line 169 = .ok (.istore_n 2, 1) := by decide +kernel
theorem dX12_line_170 : decode cX12_line 170 = .ok (.iload_n 1, 1) := by decide +kernel
theorem dX12_line_171 : decode cX12_line 171 = .ok (.ifCond .eq 21, 3) := by decide +kernel
theorem dX12_line_174 : decode cX12_line 174 = .ok (.aload_n 0, 1) := by decide +kernel
theorem dX12_line_175 : decode cX12_line 175 = .ok (.getfield 37, 3) := by decide +kernel
theorem dX12_line_178 : decode cX12_line 178 = .ok (.bipush 105, 2) := by decide +kernel
theorem dX12_line_180 : decode cX12_line 180 = .ok (.iload_n 2, 1) := by decide +kernel
theorem dX12_line_181 : decode cX12_line 181 = .ok (.iadd, 1) := by decide +kernel
theorem dX12_line_182 : decode cX12_line 182 = .ok (.iaload, 1) := by decide +kernel
theorem dX12_line_183 : decode cX12_line 183 = .ok (.ifCond .le 9, 3) := by decide +kernel
theorem dX12_line_186 : decode cX12_line 186 = .ok (.aload_n 0, 1) := by decide +kernel
theorem dX12_line_187 : decode cX12_line 187 = .ok (.iconst 3, 1) := by decide +kernel
theorem dX12_line_188 : decode cX12_line 188 = .ok (.invokevirtual 183, 3) := by decide +kernel
theorem dX12_line_191 : decode cX12_line 191 = .ok (.ireturn, 1) := by decide +kernel
theorem dX12_line_192 : decode cX12_line 192 = .ok (.aload_n 0, 1) := by decide +kernel
theorem dX12_line_193 : decode cX12_line 193 = .ok (.invokevirtual 186, 3) := by decide +kernel
theorem dX12_line_196 : decode cX12_line 196 = .ok (.aload_n 0, 1) := by decide +kernel
theorem dX12_line_197 : decode cX12_line 197 = .ok (.bipush 28, 2) := by decide +kernel
theorem dX12_line_199 : decode cX12_line 199 = .ok (.aload_n 0, 1) := by decide +kernel
theorem dX12_line_200 : decode cX12_line 200 = .ok (.getfield 37, 3) := by decide +kernel
theorem dX12_line_203 : decode cX12_line 203 = .ok (.iconst 1, 1) := by decide +kernel
theorem dX12_line_204 : decode cX12_line 204 = .ok (.iaload, 1) := by decide +kernel
theorem dX12_line_205 : decode cX12_line 205 = .ok (.invokevirtual 204, 3) := by decide +kernel
theorem dX12_line_208 : decode cX12_line 208 = .ok (.ifCond .ne 5, 3) := by decide +kernel
theorem dX12_line_211 : decode cX12_line 211 = .ok (.iconst 0, 1) := by decide +kernel
theorem dX12_line_212 : decode cX12_line 212 = .ok (.ireturn, 1) := by decide +kernel
theorem dX12_line_213 : decode cX12_line 213 = .ok (.aload_n 0, 1) := by decide +kernel
theorem dX12_line_214 : decode cX12_line 214 = .ok (.getfield 193, 3) := by decide +kernel
theorem dX12_line_217 : decode cX12_line 217 = .ok (.iload_n 2, 1) := by decide +kernel
theorem dX12_line_218 : decode cX12_line 218 = .ok (.if_icmp .eq 26, 3) := by decide +kernel
theorem dX12_line_221 : decode cX12_line 221 = .ok (.iload_n 1, 1) := by decide +kernel
theorem dX12_line_222 : decode cX12_line 222 = .ok (.ifCond .ne 28, 3) := by decide +kernel
theorem dX12_line_225 : decode cX12_line 225 = .ok (.aload_n 0, 1) := by decide +kernel
theorem dX12_line_226 : decode cX12_line 226 = .ok (.getfield 37, 3) := by decide +kernel
theorem dX12_line_229 : decode cX12_line 229 = .ok (.bipush 115, 2) := by decide +kernel
theorem dX12_line_231 : decode cX12_line 231 = .ok (.iload_n 2, 1) := by decide +kernel
theorem dX12_line_232 : decode cX12_line 232 = .ok (.iadd, 1) := by decide +kernel
theorem dX12_line_233 : decode cX12_line 233 = .ok (.iaload, 1) := by decide +kernel
theorem dX12_line_234 : decode cX12_line 234 = .ok (.aload_n 0, 1) := by decide +kernel
theorem dX12_line_235 : decode cX12_line 235 = .ok (.getfield 193, 3) := by decide +kernel
theorem dX12_line_238 : decode cX12_line 238 = .ok (.invokestatic 221, 3) := by decide +kernel
theorem dX12_line_241 : decode cX12_line 241 = .ok (.ifCond .eq 9, 3) := by decide +kernel
theorem dX12_line_244 : decode cX12_line 244 = .ok (.aload_n 0, 1) := by decide +kernel
theorem dX12_line_245 : decode cX12_line 245 = .ok (.iconst 3, 1) := by decide +kernel
theorem dX12_line_246 : decode cX12_line 246 = .ok (.invokevirtual 183, 3) := by decide +kernel
theorem dX12_line_249 : decode cX12_line 249 = .ok (.ireturn, 1) := by decide +kernel
theorem dX12_line_250 : decode cX12_line 250 = .ok (.iload_n 1, 1) := by decide +kernel
theorem dX12_line_251 : decode cX12_line 251 = .ok (.ifCond .eq 21, 3) := by decide +kernel
theorem dX12_line_254 : decode cX12_line 254 = .ok (.aload_n 0, 1) := by decide +kernel
theorem dX12_line_255 : decode cX12_line 255 = .ok (.getfield 37, 3) := by decide +kernel
theorem dX12_line_258 : decode cX12_line 258 = .ok (.bipush 105, 2) := by decide +kernel
theorem dX12_line_260 : decode cX12_line 260 = .ok (.iload_n 2, 1) := by decide +kernel
theorem dX12_line_261 : decode cX12_line 261 = .ok (.iadd, 1) := by decide +kernel
theorem dX12_line_262 : decode cX12_line 262 = .ok (.aload_n 0, 1) := by decide +kernel
theorem dX12_line_263 : decode cX12_line 263 = .ok (.getfield 193, 3) := by decide +kernel
theorem dX12_line_266 : decode cX12_line 266 = .ok (.iconst 1, 1) := by decide +kernel
theorem dX12_line_267 : decode cX12_line 267 = .ok (.iadd, 1) := by decide +kernel
theorem dX12_line_268 : decode cX12_line 268 = .ok (.iastore, 1) := by decide +kernel
theorem dX12_line_269 : decode cX12_line 269 = .ok (.goto 49, 3) := by decide +kernel
theorem dX12_line_272 : decode cX12_line 272 = .ok (.aload_n 0, 1) := by decide +kernel
theorem dX12_line_273 : decode cX12_line 273 = .ok (.getfield 37, 3) := by decide +kernel
theorem dX12_line_276 : decode cX12_line 276 = .ok (.bipush 115, 2) := by decide +kernel
theorem dX12_line_278 : decode cX12_line 278 = .ok (.iload_n 2, 1) := by decide +kernel
theorem dX12_line_279 : decode cX12_line 279 = .ok (.iadd, 1) := by decide +kernel
theorem dX12_line_280 : decode cX12_line 280 = .ok (.dup2, 1) := by decide +kernel
theorem dX12_line_281 : decode cX12_line 281 = .ok (.iaload, 1) := by decide +kernel
theorem dX12_line_282 : decode cX12_line 282 = .ok (.iconst 1, 1) := by decide +kernel
theorem dX12_line_283 : decode cX12_line 283 = .ok (.aload_n 0, 1) := by decide +kernel
theorem dX12_line_284 : decode cX12_line 284 = .ok (.getfield 193, 3) := by decide +kernel
theorem dX12_line_287 : decode cX12_line 287 = .ok (.ishl, 1) := by decide +kernel
theorem dX12_line_288 : decode cX12_line 288 = .ok (.ior, 1) := by decide +kernel
theorem dX12_line_289 : decode cX12_line 289 = .ok (.iastore, 1) := by decide +kernel
theorem dX12_line_290 : decode cX12_line 290 = .ok (.aload_n 0, 1) := by decide +kernel
theorem dX12_line_291 : decode cX12_line 291 = .ok (.getfield 37, 3) := by decide +kernel
theorem dX12_line_294 : decode cX12_line 294 = .ok (.bipush 115, 2) := by decide +kernel
theorem dX12_line_296 : decode cX12_line 296 = .ok (.aload_n 0, 1) := by decide +kernel
theorem dX12_line_297 : decode cX12_line 297 = .ok (.getfield 193, 3) := by decide +kernel
theorem dX12_line_300 : decode cX12_line 300 = .ok (.iadd, 1) := by decide +kernel
theorem dX12_line_301 : decode cX12_line 301 = .ok (.dup2, 1) := by decide +kernel
theorem dX12_line_302 : decode cX12_line 302 = .ok (.iaload, 1) := by decide +kernel
theorem dX12_line_303 : decode cX12_line 303 = .ok (.iconst 1, 1) := by decide +kernel
theorem dX12_line_304 : decode cX12_line 304 = .ok (.iload_n 2, 1) := by decide +kernel
theorem dX12_line_305 : decode cX12_line 305 = .ok (.ishl, 1) := by decide +kernel
theorem dX12_line_306 : decode cX12_line 306 = .ok (.ior, 1) := by decide +kernel
theorem dX12_line_307 : decode cX12_line 307 = .ok (.iastore, 1) := by decide +kernel
theorem dX12_line_308 : decode cX12_line 308 = .ok (.aload_n 0, 1) := by decide +kernel
theorem dX12_line_309 : decode cX12_line 309 = .ok (.getfield 37, 3) := by decide +kernel
theorem dX12_line_312 : decode cX12_line 312 = .ok (.iconst 4, 1) := by decide +kernel
theorem dX12_line_313 : decode cX12_line 313 = .ok (.dup2, 1) := by decide +kernel
theorem dX12_line_314 : decode cX12_line 314 = .ok (.iaload, 1) := by decide +kernel
theorem dX12_line_315 : decode cX12_line 315 = .ok (.iconst 1, 1) := by decide +kernel
theorem dX12_line_316 : decode cX12_line 316 = .ok (.iadd, 1) := by decide +kernel
theorem dX12_line_317 : decode cX12_line 317 = .ok (.iastore, 1) := by decide +kernel
theorem dX12_line_318 : decode cX12_line 318 = .ok (.aload_n 0, 1) := by decide +kernel
theorem dX12_line_319 : decode cX12_line 319 = .ok (.invokevirtual 186, 3) := by decide +kernel
theorem dX12_line_322 : decode cX12_line 322 = .ok (.iconst 1, 1) := by decide +kernel
theorem dX12_line_323 : decode cX12_line 323 = .ok (.ireturn, 1) := by decide +kernel
theorem dX12_readMan_0 : decode cX12_readMan 0 = .ok (.aload_n 0, 1) := by decide +kernel
theorem dX12_readMan_1 : decode cX12_readMan 1 = .ok (.getfield 37, 3) := by decide +kernel
theorem dX12_readMan_4 : decode cX12_readMan 4 = .ok (.iconst 1, 1) := by decide +kernel
theorem dX12_readMan_5 : decode cX12_readMan 5 = .ok (.iaload, 1) := by decide +kernel
theorem dX12_readMan_6 : decode cX12_readMan 6 = .ok (.istore_n 1, 1) := by decide +kernel
theorem dX12_readMan_7 : decode cX12_readMan 7 = .ok (.iload_n 1, 1) := by decide +kernel
theorem dX12_readMan_8 : decode cX12_readMan 8 = .ok (.bipush 10, 2) := by decide +kernel
theorem dX12_readMan_10 : decode cX12_readMan 10 = .ok (.if_icmp .ne 9, 3) := by decide +kernel
theorem dX12_readMan_13 : decode cX12_readMan 13 = .ok (.aload_n 0, 1) := by decide +kernel
theorem dX12_readMan_14 : decode cX12_readMan 14 = .ok (.iconst 4, 1) := by decide +kernel
theorem dX12_readMan_15 : decode cX12_readMan 15 = .ok (.invokevirtual 183, 3) := by decide +kernel
theorem dX12_readMan_18 : decode cX12_readMan 18 = .ok (.ireturn, 1) := by decide +kernel
theorem dX12_readMan_19 : decode cX12_readMan 19 = .ok (.aload_n 0, 1) := by decide +kernel
theorem dX12_readMan_20 : decode cX12_readMan 20 = .ok (.invokevirtual 186, 3) := by decide +kernel
theorem dX12_readMan_23 : decode cX12_readMan 23 = .ok (.aload_n 0, 1) := by decide +kernel
theorem dX12_readMan_24 : decode cX12_readMan 24 = .ok (.bipush 28, 2) := by decide +kernel
theorem dX12_readMan_26 : decode cX12_readMan 26 = .ok (.iload_n 1, 1) := by decide +kernel
theorem dX12_readMan_27 : decode cX12_readMan 27 = .ok (.iadd, 1) := by decide +kernel
theorem dX12_readMan_28 : decode cX12_readMan 28 = .ok (.invokevirtual 228, 3) := by decide +kernel
theorem dX12_readMan_31 : decode cX12_readMan 31 = .ok (.ifCond .eq 13, 3) := by decide +kernel
theorem dX12_readMan_34 : decode cX12_readMan 34 = .ok (.aload_n 0, 1) := by decide +kernel
theorem dX12_readMan_35 : decode cX12_readMan 35 = .ok (.iconst 0, 1) := by decide +kernel
theorem dX12_readMan_36 : decode cX12_readMan 36 = .ok (.bipush 20, 2) := by decide +kernel
theorem dX12_readMan_38 : decode cX12_readMan 38 = .ok (.invokevirtual 212, 3) := by decide +kernel
theorem dX12_readMan_41 : decode cX12_readMan 41 = .ok (.ifCond .ne 5, 3) := by decide +kernel
theorem dX12_readMan_44 : decode cX12_readMan 44 = .ok (.iconst 0, 1) := by decide +kernel
theorem dX12_readMan_45 : decode cX12_readMan 45 = .ok (.ireturn, 1) := by decide +kernel
theorem dX12_readMan_46 : decode cX12_readMan 46 = .ok (.aload_n 0, 1) := by decide +kernel
theorem dX12_readMan_47 : decode cX12_readMan 47 = .ok (.getfield 37, 3) := by decide +kernel
theorem dX12_readMan_50 : decode cX12_readMan 50 = .ok (.iconst 5, 1) := by decide +kernel
theorem dX12_readMan_51 : decode cX12_readMan 51 = .ok (.iload_n 1, 1) := by decide +kernel
theorem dX12_readMan_52 : decode cX12_readMan 52 = .ok (.iadd, 1) := by decide +kernel
theorem dX12_readMan_53 : decode cX12_readMan 53 = .ok (.aload_n 0, 1) := by decide +kernel
theorem dX12_readMan_54 : decode cX12_readMan 54 = .ok (.getfield 193, 3) := by decide +kernel
theorem dX12_readMan_57 : decode cX12_readMan 57 = .ok (.iastore, 1) := by decide +kernel
theorem dX12_readMan_58 : decode cX12_readMan 58 = .ok (.iconst 0, 1) := by decide +kernel
theorem dX12_readMan_59 : decode cX12_readMan 59 = .ok (.istore_n 2, 1) := by decide +kernel
theorem dX12_readMan_60 : decode cX12_readMan 60 = .ok (.iload_n 2, 1) := by decide +kernel
theorem dX12_readMan_61 : decode cX12_readMan 61 = .ok (.bipush 9, 2) := by decide +kernel
theorem dX12_readMan_63 : decode cX12_readMan 63 = .ok (.if_icmp .ge 24, 3) := by decide +kernel
theorem dX12_readMan_66 : decode cX12_readMan 66 = .ok (.aload_n 0, 1) := by decide +kernel
theorem dX12_readMan_67 : decode cX12_readMan 67 = .ok (.getfield 37, 3) := by decide +kernel
theorem dX12_readMan_70 : decode cX12_readMan 70 = .ok (.bipush 15, 2) := by decide +kernel
theorem dX12_readMan_72 : decode cX12_readMan 72 = .ok (.bipush 9, 2) := by decide +kernel
theorem dX12_readMan_74 : decode cX12_readMan 74 = .ok (.iload_n 1, 1) := by decide +kernel
theorem dX12_readMan_75 : decode cX12_readMan 75 = .ok (.imul, 1) := by decide +kernel
theorem dX12_readMan_76 : decode cX12_readMan 76 = .ok (.iadd, 1) := by decide +kernel
theorem dX12_readMan_77 : decode cX12_readMan 77 = .ok (.iload_n 2, 1) := by decide +kernel
theorem dX12_readMan_78 : decode cX12_readMan 78 = .ok (.iadd, 1) := by decide +kernel
theorem dX12_readMan_79 : decode cX12_readMan 79 = .ok (.iconst 0, 1) := by decide +kernel
theorem dX12_readMan_80 : decode cX12_readMan 80 = .ok (.iastore, 1) := by decide +kernel
theorem dX12_readMan_81 : decode cX12_readMan 81 = .ok (.iinc 2 1, 3) := by decide +kernel
theorem dX12_readMan_84 : decode cX12_readMan 84 = .ok (.goto (-24), 3) := by decide +kernel
theorem dX12_readMan_87 : decode cX12_readMan 87 = .ok (.aload_n 0, 1) := by decide +kernel
theorem dX12_readMan_88 : decode cX12_readMan 88 = .ok (.bipush 59, 2) := by decide +kernel
theorem dX12_readMan_90 : decode cX12_readMan 90 = .ok (.invokevirtual 180, 3) := by decide +kernel
theorem dX12_readMan_93 : decode cX12_readMan 93 = .ok (.ifCond .ne 75, 3) := by decide +kernel
theorem dX12_readMan_96 : decode cX12_readMan 96 = .ok (.aload_n 0, 1) := by decide +kernel
theorem dX12_readMan_97 : decode cX12_readMan 97 = .ok (.bipush 19, 2) := by decide +kernel
theorem dX12_readMan_99 : decode cX12_readMan 99 = .ok (.aload_n 0, 1) := by decide +kernel
theorem dX12_readMan_100 : decode cX12_readMan 100 = .ok (.getfield 37, 3) := by decide +kernel
theorem dX12_readMan_103 : decode cX12_readMan 103 = .ok (.iconst 0, 1) := by decide +kernel
theorem dX12_readMan_104 : decode cX12_readMan 104 = .ok (.iaload, 1) := by decide +kernel
theorem dX12_readMan_105 : decode cX12_readMan 105 = .ok (.invokevirtual 204, 3) := by decide +kernel
theorem dX12_readMan_108 : decode cX12_readMan 108 = .ok (.ifCond .ne 5, 3) := by decide +kernel
theorem dX12_readMan_111 : decode cX12_readMan 111 = .ok (.iconst 0, 1) := by decide +kernel
theorem dX12_readMan_112 : decode cX12_readMan 112 = .ok (.ireturn, 1) := by decide +kernel
theorem dX12_readMan_113 : decode cX12_readMan 113 = .ok (.bipush 15, 2) := by decide +kernel
theorem dX12_readMan_115 : decode cX12_readMan 115 = .ok (.bipush 9, 2) := by decide +kernel
theorem dX12_readMan_117 : decode cX12_readMan 117 = .ok (.iload_n 1, 1) := by decide +kernel
theorem dX12_readMan_118 : decode cX12_readMan 118 = .ok (.imul, 1) := by decide +kernel
theorem dX12_readMan_119 : decode cX12_readMan 119 = .ok (.iadd, 1) := by decide +kernel
theorem dX12_readMan_120 : decode cX12_readMan 120 = .ok (.aload_n 0, 1) := by decide +kernel
theorem dX12_readMan_121 : decode cX12_readMan 121 = .ok (.getfield 193, 3) := by decide +kernel
theorem dX12_readMan_124 : decode cX12_readMan 124 = .ok (.iadd, 1) := by decide +kernel
theorem dX12_readMan_125 : decode cX12_readMan 125 = .ok (.istore_n 2, 1) := by decide +kernel
theorem dX12_readMan_126 : decode cX12_readMan 126 = .ok (.aload_n 0, 1) := by decide +kernel
theorem dX12_readMan_127 : decode cX12_readMan 127 = .ok (.getfield 37, 3) := by decide +kernel
theorem dX12_readMan_130 : decode cX12_readMan 130 = .ok (.iload_n 2, 1) := by decide +kernel
theorem dX12_readMan_131 : decode cX12_readMan 131 = .ok (.iaload, 1) := by decide +kernel
theorem dX12_readMan_132 : decode cX12_readMan 132 = .ok (.ifCond .eq 9, 3) := by decide +kernel
theorem dX12_readMan_135 : decode cX12_readMan 135 = .ok (.aload_n 0, 1) := by decide +kernel
theorem dX12_readMan_136 : decode cX12_readMan 136 = .ok (.iconst 3, 1) := by decide +kernel
theorem dX12_readMan_137 : decode cX12_readMan 137 = .ok (.invokevirtual 183, 3) := by decide +kernel
theorem dX12_readMan_140 : decode cX12_readMan 140 = .ok (.ireturn, 1) := by decide +kernel
theorem dX12_readMan_141 : decode cX12_readMan 141 = .ok (.aload_n 0, 1) := by decide +kernel
theorem dX12_readMan_142 : decode cX12_readMan 142 = .ok (.invokevirtual 186, 3) := by decide +kernel
theorem dX12_readMan_145 : decode cX12_readMan 145 = .ok (.aload_n 0, 1) := by decide +kernel
theorem dX12_readMan_146 : decode cX12_readMan 146 = .ok (.iconst 1, 1) := by decide +kernel
theorem dX12_readMan_147 : decode cX12_readMan 147 = .ok (.invokevirtual 234, 3) := by decide +kernel
theorem dX12_readMan_150 : decode cX12_readMan 150 = .ok (.ifCond .ne 5, 3) := by decide +kernel
theorem dX12_readMan_153 : decode cX12_readMan 153 = .ok (.iconst 0, 1) := by decide +kernel
theorem dX12_readMan_154 : decode cX12_readMan 154 = .ok (.ireturn, 1) := by decide +kernel
theorem dX12_readMan_155 : decode cX12_readMan 155 = .ok (.aload_n 0, 1) := by decide +kernel
theorem dX12_readMan_156 : decode cX12_readMan 156 = .ok (.getfield 37, 3) := by decide +kernel
theorem dX12_readMan_159 : decode cX12_readMan 159 = .ok (.iload_n 2, 1) := by decide +kernel
theorem dX12_readMan_160 : decode cX12_readMan 160 = .ok (.aload_n 0, 1) := by decide +kernel
theorem dX12_readMan_161 : decode cX12_readMan 161 = .ok (.getfield 215, 3) := by decide +kernel
theorem dX12_readMan_164 : decode cX12_readMan 164 = .ok (.iastore, 1) := by decide +kernel
theorem dX12_readMan_165 : decode cX12_readMan 165 = .ok (.goto (-78), 3) := by decide +kernel
theorem dX12_readMan_168 : decode cX12_readMan 168 = .ok (.aload_n 0, 1) := by decide +kernel
theorem dX12_readMan_169 : decode cX12_readMan 169 = .ok (.getfield 37, 3) := by decide +kernel
theorem dX12_readMan_172 : decode cX12_readMan 172 = .ok (.iconst 1, 1) := by decide +kernel
theorem dX12_readMan_173 : decode cX12_readMan 173 = .ok (.dup2, 1) := by decide +kernel
theorem dX12_readMan_174 : decode cX12_readMan 174 = .ok (.iaload, 1) := by decide +kernel
theorem dX12_readMan_175 : decode cX12_readMan 175 = .ok (.iconst 1, 1) := by decide +kernel
theorem dX12_readMan_176 : decode cX12_readMan 176 = .ok (.iadd, 1) := by decide +kernel
theorem dX12_readMan_177 : decode cX12_readMan 177 = .ok (.iastore, 1) := by decide +kernel
theorem dX12_readMan_178 : decode cX12_readMan 178 = .ok (.iconst 1, 1) := by decide +kernel
theorem dX12_readMan_179 : decode cX12_readMan 179 = .ok (.ireturn, 1) := by decide +kernel
theorem dX12_ferry_0 : decode cX12_ferry 0 = .ok (.aload_n 0, 1) := by decide +kernel
theorem dX12_ferry_1 : decode cX12_ferry 1 = .ok (.iconst 0, 1) := by decide +kernel
theorem dX12_ferry_2 : decode cX12_ferry 2 = .ok (.putfield 1, 3) := by decide +kernel
theorem dX12_ferry_5 : decode cX12_ferry 5 = .ok (.aload_n 0, 1) := by decide +kernel
theorem dX12_ferry_6 : decode cX12_ferry 6 = .ok (.sipush 900, 3) := by decide +kernel
theorem dX12_ferry_9 : decode cX12_ferry 9 = .ok (.invokevirtual 237, 3) := by decide +kernel
theorem dX12_ferry_12 : decode cX12_ferry 12 = .ok (.aload_n 0, 1) := by decide +kernel
theorem dX12_ferry_13 : decode cX12_ferry 13 = .ok (.iconst 0, 1) := by decide +kernel
theorem dX12_ferry_14 : decode cX12_ferry 14 = .ok (.putfield 174, 3) := by decide +kernel
theorem dX12_ferry_17 : decode cX12_ferry 17 = .ok (.aload_n 0, 1) := by decide +kernel
theorem dX12_ferry_18 : decode cX12_ferry 18 = .ok (.iconst 0, 1) := by decide +kernel
theorem dX12_ferry_19 : decode cX12_ferry 19 = .ok (.putfield 240, 3) := by decide +kernel
theorem dX12_ferry_22 : decode cX12_ferry 22 = .ok (.aload_n 0, 1) := by decide +kernel
theorem dX12_ferry_23 : decode cX12_ferry 23 = .ok (.iconst 0, 1) := by decide +kernel
theorem dX12_ferry_24 : decode cX12_ferry 24 = .ok (.putfield 218, 3) := by decide +kernel
theorem dX12_ferry_27 : decode cX12_ferry 27 = .ok (.iconst 0, 1) := by decide +kernel
theorem dX12_ferry_28 : decode cX12_ferry 28 = .ok (.istore_n 1, 1) := by decide +kernel
theorem dX12_ferry_29 : decode cX12_ferry 29 = .ok (.iload_n 1, 1) := by decide +kernel
theorem dX12_ferry_30 : decode cX12_ferry 30 = .ok (.bipush 125, 2) := by decide +kernel
theorem dX12_ferry_32 : decode cX12_ferry 32 = .ok (.if_icmp .ge 16, 3) := by decide +kernel
theorem dX12_ferry_35 : decode cX12_ferry 35 = .ok (.aload_n 0, 1) := by decide +kernel
theorem dX12_ferry_36 : decode cX12_ferry 36 = .ok (.getfield 37, 3) := by decide +kernel
theorem dX12_ferry_39 : decode cX12_ferry 39 = .ok (.iload_n 1, 1) := by decide +kernel
theorem dX12_ferry_40 : decode cX12_ferry 40 = .ok (.iconst 0, 1) := by decide +kernel
theorem dX12_ferry_41 : decode cX12_ferry 41 = .ok (.iastore, 1) := by decide +kernel
theorem dX12_ferry_42 : decode cX12_ferry 42 = .ok (.iinc 1 1, 3) := by decide +kernel
theorem dX12_ferry_45 : decode cX12_ferry 45 = .ok (.goto (-16), 3) := by decide +kernel
theorem dX12_ferry_48 : decode cX12_ferry 48 = .ok (.aload_n 0, 1) := by decide +kernel
theorem dX12_ferry_49 : decode cX12_ferry 49 = .ok (.getfield 37, 3) := by decide +kernel
theorem dX12_ferry_52 : decode cX12_ferry 52 = .ok (.iconst 2, 1) := by decide +kernel
theorem dX12_ferry_53 : decode cX12_ferry 53 = .ok (.iconst 4, 1) := by decide +kernel
theorem dX12_ferry_54 : decode cX12_ferry 54 = .ok (.iastore, 1) := by decide +kernel
theorem dX12_ferry_55 : decode cX12_ferry 55 = .ok (.aload_n 0, 1) := by decide +kernel
theorem dX12_ferry_56 : decode cX12_ferry 56 = .ok (.invokevirtual 186, 3) := by decide +kernel
theorem dX12_ferry_59 : decode cX12_ferry 59 = .ok (.aload_n 0, 1) := by decide +kernel
theorem dX12_ferry_60 : decode cX12_ferry 60 = .ok (.getfield 157, 3) := by decide +kernel
theorem dX12_ferry_63 : decode cX12_ferry 63 = .ok (.ifCond .eq 39, 3) := by decide +kernel
theorem dX12_ferry_66 : decode cX12_ferry 66 = .ok (.aload_n 0, 1) := by decide +kernel
theorem dX12_ferry_67 : decode cX12_ferry 67 = .ok (.invokevirtual 243, 3) := by decide +kernel
theorem dX12_ferry_70 : decode cX12_ferry 70 = .ok (.ifCond .eq 12, 3) := by decide +kernel
theorem dX12_ferry_73 : decode cX12_ferry 73 = .ok (.aload_n 0, 1) := by decide +kernel
theorem dX12_ferry_74 : decode cX12_ferry 74 = .ok (.bipush 59, 2) := by decide +kernel
theorem dX12_ferry_76 : decode cX12_ferry 76 = .ok (.invokevirtual 246, 3) := by decide +kernel
theorem dX12_ferry_79 : decode cX12_ferry 79 = .ok (.ifCond .ne 10, 3) := by decide +kernel
theorem dX12_ferry_82 : decode cX12_ferry 82 = .ok (.iconst (-1), 1) := by decide +kernel
theorem dX12_ferry_83 : decode cX12_ferry 83 = .ok (.aload_n 0, 1) := by decide +kernel
theorem dX12_ferry_84 : decode cX12_ferry 84 = .ok (.getfield 177, 3) := by decide +kernel
theorem dX12_ferry_87 : decode cX12_ferry 87 = .ok (.isub, 1) := by decide +kernel
theorem dX12_ferry_88 : decode cX12_ferry 88 = .ok (.ireturn, 1) := by decide +kernel
theorem dX12_ferry_89 : decode cX12_ferry 89 = .ok (.aload_n 0, 1) := by decide +kernel
theorem dX12_ferry_90 : decode cX12_ferry 90 = .ok (.dup, 1) := by decide +kernel
theorem dX12_ferry_91 : decode cX12_ferry 91 = .ok (.getfield 240, 3) := by decide +kernel
theorem dX12_ferry_94 : decode cX12_ferry 94 = .ok (.iconst 1, 1) := by decide +kernel
theorem dX12_ferry_95 : decode cX12_ferry 95 = .ok (.iadd, 1) := by decide +kernel
theorem dX12_ferry_96 : decode cX12_ferry 96 = .ok (.putfield 240, 3) := by decide +kernel
theorem dX12_ferry_99 : decode cX12_ferry 99 = .ok (.goto (-40), 3) := by decide +kernel
theorem dX12_ferry_102 : decode cX12_ferry 102 = .ok (.iconst 0, 1) := by decide +kernel
theorem dX12_ferry_103 : decode cX12_ferry 103 = .ok (.istore_n 1, 1) := by decide +kernel
theorem dX12_ferry_104 : decode cX12_ferry 104 = .ok (.iload_n 1, 1) := by decide +kernel
theorem dX12_ferry_105 : decode cX12_ferry 105 = .ok (.sipush 513, 3) := by decide +kernel
theorem dX12_ferry_108 : decode cX12_ferry 108 = .ok (.if_icmp .ge 31, 3) := by decide +kernel
theorem dX12_ferry_111 : decode cX12_ferry 111 = .ok (.aload_n 0, 1) := by decide +kernel
theorem dX12_ferry_112 : decode cX12_ferry 112 = .ok (.getfield 33, 3) := by decide +kernel
theorem dX12_ferry_115 : decode cX12_ferry 115 = .ok (.iload_n 1, 1) := by decide +kernel
theorem dX12_ferry_116 : decode cX12_ferry 116 = .ok (.iload_n 1, 1) := by decide +kernel
theorem dX12_ferry_117 : decode cX12_ferry 117 = .ok (.bipush 125, 2) := by decide +kernel
theorem dX12_ferry_119 : decode cX12_ferry 119 = .ok (.if_icmp .ge 12, 3) := by decide +kernel
theorem dX12_ferry_122 : decode cX12_ferry 122 = .ok (.aload_n 0, 1) := by decide +kernel
theorem dX12_ferry_123 : decode cX12_ferry 123 = .ok (.getfield 37, 3) := by decide +kernel
theorem dX12_ferry_126 : decode cX12_ferry 126 = .ok (.iload_n 1, 1) := by decide +kernel
theorem dX12_ferry_127 : decode cX12_ferry 127 = .ok (.iaload, 1) := by decide +kernel
theorem dX12_ferry_128 : decode cX12_ferry 128 = .ok (.goto 4, 3) := by decide +kernel
theorem dX12_ferry_131 : decode cX12_ferry 131 = .ok (.iconst 0, 1) := by decide +kernel
theorem dX12_ferry_132 : decode cX12_ferry 132 = .ok (.iastore, 1) := by decide +kernel
theorem dX12_ferry_133 : decode cX12_ferry 133 = .ok (.iinc 1 1, 3) := by decide +kernel
theorem dX12_ferry_136 : decode cX12_ferry 136 = .ok (.goto (-32), 3) := by decide +kernel
theorem dX12_ferry_139 : decode cX12_ferry 139 = .ok (.iconst 0, 1) := by decide +kernel
theorem dX12_ferry_140 : decode cX12_ferry 140 = .ok (.istore_n 1, 1) := by decide +kernel
theorem dX12_ferry_141 : decode cX12_ferry 141 = .ok (.iload_n 1, 1) := by decide +kernel
theorem dX12_ferry_142 : decode cX12_ferry 142 = .ok (.bipush 19, 2) := by decide +kernel
theorem dX12_ferry_144 : decode cX12_ferry 144 = .ok (.if_icmp .ge 24, 3) := by decide +kernel
theorem dX12_ferry_147 : decode cX12_ferry 147 = .ok (.aload_n 0, 1) := by decide +kernel
theorem dX12_ferry_148 : decode cX12_ferry 148 = .ok (.getfield 43, 3) := by decide +kernel
theorem dX12_ferry_151 : decode cX12_ferry 151 = .ok (.iload_n 1, 1) := by decide +kernel
theorem dX12_ferry_152 : decode cX12_ferry 152 = .ok (.aload_n 0, 1) := by decide +kernel
theorem dX12_ferry_153 : decode cX12_ferry 153 = .ok (.getfield 43, 3) := by decide +kernel
theorem dX12_ferry_156 : decode cX12_ferry 156 = .ok (.bipush 19, 2) := by decide +kernel
theorem dX12_ferry_158 : decode cX12_ferry 158 = .ok (.iload_n 1, 1) := by decide +kernel
theorem dX12_ferry_159 : decode cX12_ferry 159 = .ok (.iadd, 1) := by decide +kernel
theorem dX12_ferry_160 : decode cX12_ferry 160 = .ok (.laload, 1) := by decide +kernel
theorem dX12_ferry_161 : decode cX12_ferry 161 = .ok (.lastore, 1) := by decide +kernel
theorem dX12_ferry_162 : decode cX12_ferry 162 = .ok (.iinc 1 1, 3) := by decide +kernel
theorem dX12_ferry_165 : decode cX12_ferry 165 = .ok (.goto (-24), 3) := by decide +kernel
theorem dX12_ferry_168 : decode cX12_ferry 168 = .ok (.iconst 0, 1) := by decide +kernel
theorem dX12_ferry_169 : decode cX12_ferry 169 = .ok (.istore_n 1, 1) := by decide +kernel
theorem dX12_ferry_170 : decode cX12_ferry 170 = .ok (.iload_n 1, 1) := by decide +kernel
theorem dX12_ferry_171 : decode cX12_ferry 171 = .ok (.bipush 90, 2) := by decide +kernel
theorem dX12_ferry_173 : decode cX12_ferry 173 = .ok (.if_icmp .ge 28, 3) := by decide +kernel
theorem dX12_ferry_176 : decode cX12_ferry 176 = .ok (.aload_n 0, 1) := by decide +kernel
theorem dX12_ferry_177 : decode cX12_ferry 177 = .ok (.getfield 33, 3) := by decide +kernel
theorem dX12_ferry_180 : decode cX12_ferry 180 = .ok (.sipush 142, 3) := by decide +kernel
theorem dX12_ferry_183 : decode cX12_ferry 183 = .ok (.iload_n 1, 1) := by decide +kernel
theorem dX12_ferry_184 : decode cX12_ferry 184 = .ok (.iadd, 1) := by decide +kernel
theorem dX12_ferry_185 : decode cX12_ferry 185 = .ok (.aload_n 0, 1) := by decide +kernel
theorem dX12_ferry_186 : decode cX12_ferry 186 = .ok (.getfield 33, 3) := by decide +kernel
theorem dX12_ferry_189 : decode cX12_ferry 189 = .ok (.bipush 15, 2) := by decide +kernel
theorem dX12_ferry_191 : decode cX12_ferry 191 = .ok (.iload_n 1, 1) := by decide +kernel
theorem dX12_ferry_192 : decode cX12_ferry 192 = .ok (.iadd, 1) := by decide +kernel
theorem dX12_ferry_193 : decode cX12_ferry 193 = .ok (.iaload, 1) := by decide +kernel
theorem dX12_ferry_194 : decode cX12_ferry 194 = .ok (.iastore, 1) := by decide +kernel
theorem dX12_ferry_195 : decode cX12_ferry 195 = .ok (.iinc 1 1, 3) := by decide +kernel
theorem dX12_ferry_198 : decode cX12_ferry 198 = .ok (.goto (-28), 3) := by decide +kernel
theorem dX12_ferry_201 : decode cX12_ferry 201 = .ok (.aload_n 0, 1) := by decide +kernel
theorem dX12_ferry_202 : decode cX12_ferry 202 = .ok (.iconst 0, 1) := by decide +kernel
theorem dX12_ferry_203 : decode cX12_ferry 203 = .ok (.putfield 249, 3) := by decide +kernel
theorem dX12_ferry_206 : decode cX12_ferry 206 = .ok (.aload_n 0, 1) := by decide +kernel
theorem dX12_ferry_207 : decode cX12_ferry 207 = .ok (.getfield 240, 3) := by decide +kernel
theorem dX12_ferry_210 : decode cX12_ferry 210 = .ok (.ireturn, 1) := by decide +kernel
theorem dX12_fault_0 : decode cX12_fault 0 = .ok (.aload_n 0, 1) := by decide +kernel
theorem dX12_fault_1 : decode cX12_fault 1 = .ok (.iconst 0, 1) := by decide +kernel
theorem dX12_fault_2 : decode cX12_fault 2 = .ok (.putfield 1, 3) := by decide +kernel
theorem dX12_fault_5 : decode cX12_fault 5 = .ok (.aload_n 0, 1) := by decide +kernel
theorem dX12_fault_6 : decode cX12_fault 6 = .ok (.getfield 174, 3) := by decide +kernel
theorem dX12_fault_9 : decode cX12_fault 9 = .ok (.ireturn, 1) := by decide +kernel
theorem dX12_isMan_0 : decode cX12_isMan 0 = .ok (.iload_n 1, 1) := by decide +kernel
theorem dX12_isMan_1 : decode cX12_isMan 1 = .ok (.iconst 0, 1) := by decide +kernel
theorem dX12_isMan_2 : decode cX12_isMan 2 = .ok (.aload_n 0, 1) := by decide +kernel
theorem dX12_isMan_3 : decode cX12_isMan 3 = .ok (.getfield 33, 3) := by decide +kernel
theorem dX12_isMan_6 : decode cX12_isMan 6 = .ok (.iconst 1, 1) := by decide +kernel
theorem dX12_isMan_7 : decode cX12_isMan 7 = .ok (.iaload, 1) := by decide +kernel
theorem dX12_isMan_8 : decode cX12_isMan 8 = .ok (.iconst 1, 1) := by decide +kernel
theorem dX12_isMan_9 : decode cX12_isMan 9 = .ok (.isub, 1) := by decide +kernel
theorem dX12_isMan_10 : decode cX12_isMan 10 = .ok (.invokestatic 189, 3) := by decide +kernel
theorem dX12_isMan_13 : decode cX12_isMan 13 = .ok (.ireturn, 1) := by decide +kernel
theorem dX12_isAsk_0 : decode cX12_isAsk 0 = .ok (.iload_n 1, 1) := by decide +kernel
theorem dX12_isAsk_1 : decode cX12_isAsk 1 = .ok (.iconst 0, 1) := by decide +kernel
theorem dX12_isAsk_2 : decode cX12_isAsk 2 = .ok (.aload_n 0, 1) := by decide +kernel
theorem dX12_isAsk_3 : decode cX12_isAsk 3 = .ok (.getfield 33, 3) := by decide +kernel
theorem dX12_isAsk_6 : decode cX12_isAsk 6 = .ok (.iconst 0, 1) := by decide +kernel
theorem dX12_isAsk_7 : decode cX12_isAsk 7 = .ok (.iaload, 1) := by decide +kernel
theorem dX12_isAsk_8 : decode cX12_isAsk 8 = .ok (.iconst 1, 1) := by decide +kernel
theorem dX12_isAsk_9 : decode cX12_isAsk 9 = .ok (.isub, 1) := by decide +kernel
theorem dX12_isAsk_10 : decode cX12_isAsk 10 = .ok (.invokestatic 189, 3) := by decide +kernel
theorem dX12_isAsk_13 : decode cX12_isAsk 13 = .ok (.ireturn, 1) := by decide +kernel
theorem dX12_isSet_0 : decode cX12_isSet 0 = .ok (.iload_n 1, 1) := by decide +kernel
theorem dX12_isSet_1 : decode cX12_isSet 1 = .ok (.ifCond .lt 19, 3) := by decide +kernel
theorem dX12_isSet_4 : decode cX12_isSet 4 = .ok (.iload_n 1, 1) := by decide +kernel
theorem dX12_isSet_5 : decode cX12_isSet 5 = .ok (.iconst 1, 1) := by decide +kernel
theorem dX12_isSet_6 : decode cX12_isSet 6 = .ok (.aload_n 0, 1) := by decide +kernel
theorem dX12_isSet_7 : decode cX12_isSet 7 = .ok (.getfield 33, 3) := by decide +kernel
theorem dX12_isSet_10 : decode cX12_isSet 10 = .ok (.iconst 1, 1) := by decide +kernel
theorem dX12_isSet_11 : decode cX12_isSet 11 = .ok (.iaload, 1) := by decide +kernel
theorem dX12_isSet_12 : decode cX12_isSet 12 = .ok (.ishl, 1) := by decide +kernel
theorem dX12_isSet_13 : decode cX12_isSet 13 = .ok (.if_icmp .ge 7, 3) := by decide +kernel
theorem dX12_isSet_16 : decode cX12_isSet 16 = .ok (.iconst 1, 1) := by decide +kernel
theorem dX12_isSet_17 : decode cX12_isSet 17 = .ok (.goto 4, 3) := by decide +kernel
theorem dX12_isSet_20 : decode cX12_isSet 20 = .ok (.iconst 0, 1) := by decide +kernel
theorem dX12_isSet_21 : decode cX12_isSet 21 = .ok (.ireturn, 1) := by decide +kernel
theorem dX12_bankOf_0 : decode cX12_bankOf 0 = .ok (.aload_n 0, 1) := by decide +kernel
theorem dX12_bankOf_1 : decode cX12_bankOf 1 = .ok (.getfield 33, 3) := by decide +kernel
theorem dX12_bankOf_4 : decode cX12_bankOf 4 = .ok (.sipush 129, 3) := by decide +kernel
theorem dX12_bankOf_7 : decode cX12_bankOf 7 = .ok (.iaload, 1) := by decide +kernel
theorem dX12_bankOf_8 : decode cX12_bankOf 8 = .ok (.iload_n 1, 1) := by decide +kernel
theorem dX12_bankOf_9 : decode cX12_bankOf 9 = .ok (.ishr, 1) := by decide +kernel
theorem dX12_bankOf_10 : decode cX12_bankOf 10 = .ok (.iconst 1, 1) := by decide +kernel
theorem dX12_bankOf_11 : decode cX12_bankOf 11 = .ok (.iand, 1) := by decide +kernel
theorem dX12_bankOf_12 : decode cX12_bankOf 12 = .ok (.ireturn, 1) := by decide +kernel
theorem dX12_ashore_0 : decode cX12_ashore 0 = .ok (.aload_n 0, 1) := by decide +kernel
theorem dX12_ashore_1 : decode cX12_ashore 1 = .ok (.getfield 33, 3) := by decide +kernel
theorem dX12_ashore_4 : decode cX12_ashore 4 = .ok (.bipush 125, 2) := by decide +kernel
theorem dX12_ashore_6 : decode cX12_ashore 6 = .ok (.iaload, 1) := by decide +kernel
theorem dX12_ashore_7 : decode cX12_ashore 7 = .ok (.iconst 1, 1) := by decide +kernel
theorem dX12_ashore_8 : decode cX12_ashore 8 = .ok (.if_icmp .ne 14, 3) := by decide +kernel
theorem dX12_ashore_11 : decode cX12_ashore 11 = .ok (.aload_n 0, 1) := by decide +kernel
theorem dX12_ashore_12 : decode cX12_ashore 12 = .ok (.getfield 33, 3) := by decide +kernel
theorem dX12_ashore_15 : decode cX12_ashore 15 = .ok (.sipush 129, 3) := by decide +kernel
theorem dX12_ashore_18 : decode cX12_ashore 18 = .ok (.iaload, 1) := by decide +kernel
theorem dX12_ashore_19 : decode cX12_ashore 19 = .ok (.goto 24, 3) := by decide +kernel
theorem dX12_ashore_22 : decode cX12_ashore 22 = .ok (.iconst 1, 1) := by decide +kernel
theorem dX12_ashore_23 : decode cX12_ashore 23 = .ok (.aload_n 0, 1) := by decide +kernel
theorem dX12_ashore_24 : decode cX12_ashore 24 = .ok (.getfield 33, 3) := by decide +kernel
theorem dX12_ashore_27 : decode cX12_ashore 27 = .ok (.iconst 1, 1) := by decide +kernel
theorem dX12_ashore_28 : decode cX12_ashore 28 = .ok (.iaload, 1) := by decide +kernel
theorem dX12_ashore_29 : decode cX12_ashore 29 = .ok (.ishl, 1) := by decide +kernel
theorem dX12_ashore_30 : decode cX12_ashore 30 = .ok (.iconst 1, 1) := by decide +kernel
theorem dX12_ashore_31 : decode cX12_ashore 31 = .ok (.isub, 1) := by decide +kernel
theorem dX12_ashore_32 : decode cX12_ashore 32 = .ok (.aload_n 0, 1) := by decide +kernel
theorem dX12_ashore_33 : decode cX12_ashore 33 = .ok (.getfield 33, 3) := by decide +kernel
theorem dX12_ashore_36 : decode cX12_ashore 36 = .ok (.sipush 129, 3) := by decide +kernel
theorem dX12_ashore_39 : decode cX12_ashore 39 = .ok (.iaload, 1) := by decide +kernel
theorem dX12_ashore_40 : decode cX12_ashore 40 = .ok (.iconst (-1), 1) := by decide +kernel
theorem dX12_ashore_41 : decode cX12_ashore 41 = .ok (.ixor, 1) := by decide +kernel
theorem dX12_ashore_42 : decode cX12_ashore 42 = .ok (.iand, 1) := by decide +kernel
theorem dX12_ashore_43 : decode cX12_ashore 43 = .ok (.ireturn, 1) := by decide +kernel
theorem dX12_man_0 : decode cX12_man 0 = .ok (.aload_n 0, 1) := by decide +kernel
theorem dX12_man_1 : decode cX12_man 1 = .ok (.aload_n 0, 1) := by decide +kernel
theorem dX12_man_2 : decode cX12_man 2 = .ok (.iload_n 1, 1) := by decide +kernel
theorem dX12_man_3 : decode cX12_man 3 = .ok (.invokevirtual 252, 3) := by decide +kernel
theorem dX12_man_6 : decode cX12_man 6 = .ok (.ifCond .eq 13, 3) := by decide +kernel
theorem dX12_man_9 : decode cX12_man 9 = .ok (.iload_n 2, 1) := by decide +kernel
theorem dX12_man_10 : decode cX12_man 10 = .ok (.iconst 0, 1) := by decide +kernel
theorem dX12_man_11 : decode cX12_man 11 = .ok (.bipush 7, 2) := by decide +kernel
theorem dX12_man_13 : decode cX12_man 13 = .ok (.invokestatic 189, 3) := by decide +kernel
theorem dX12_man_16 : decode cX12_man 16 = .ok (.ifCond .ne 7, 3) := by decide +kernel
theorem dX12_man_19 : decode cX12_man 19 = .ok (.iconst 1, 1) := by decide +kernel
theorem dX12_man_20 : decode cX12_man 20 = .ok (.goto 4, 3) := by decide +kernel
theorem dX12_man_23 : decode cX12_man 23 = .ok (.iconst 0, 1) := by decide +kernel
theorem dX12_man_24 : decode cX12_man 24 = .ok (.invokevirtual 255, 3) := by decide +kernel
theorem dX12_man_27 : decode cX12_man 27 = .ok (.ifCond .eq 5, 3) := by decide +kernel
theorem dX12_man_30 : decode cX12_man 30 = .ok (.iconst 0, 1) := by decide +kernel
theorem dX12_man_31 : decode cX12_man 31 = .ok (.ireturn, 1) := by decide +kernel
theorem dX12_man_32 : decode cX12_man 32 = .ok (.iload_n 2, 1) := by decide +kernel
theorem dX12_man_33 : decode cX12_man 33 = .ok (.tableswitch 117 0 6 #[43, 49, 58, 71, 84, 96, 107], 43) := by decide +kernel
theorem dX12_man_76 : decode cX12_man 76 = .ok (.aload_n 0, 1) := by decide +kernel
theorem dX12_man_77 : decode cX12_man 77 = .ok (.iload_n 1, 1) := by decide +kernel
theorem dX12_man_78 : decode cX12_man 78 = .ok (.invokevirtual 259, 3) := by decide +kernel
theorem dX12_man_81 : decode cX12_man 81 = .ok (.ireturn, 1) := by decide +kernel
theorem dX12_man_82 : decode cX12_man 82 = .ok (.aload_n 0, 1) := by decide +kernel
theorem dX12_man_83 : decode cX12_man 83 = .ok (.getfield 33, 3) := by decide +kernel
theorem dX12_man_86 : decode cX12_man 86 = .ok (.iconst 5, 1) := by decide +kernel
theorem dX12_man_87 : decode cX12_man 87 = .ok (.iload_n 1, 1) := by decide +kernel
theorem dX12_man_88 : decode cX12_man 88 = .ok (.iadd, 1) := by decide +kernel
theorem dX12_man_89 : decode cX12_man 89 = .ok (.iaload, 1) := by decide +kernel
theorem dX12_man_90 : decode cX12_man 90 = .ok (.ireturn, 1) := by decide +kernel
theorem dX12_man_91 : decode cX12_man 91 = .ok (.aload_n 0, 1) := by decide +kernel
theorem dX12_man_92 : decode cX12_man 92 = .ok (.getfield 33, 3) := by decide +kernel
theorem dX12_man_95 : decode cX12_man 95 = .ok (.sipush 131, 3) := by decide +kernel
theorem dX12_man_98 : decode cX12_man 98 = .ok (.iaload, 1) := by decide +kernel
theorem dX12_man_99 : decode cX12_man 99 = .ok (.iload_n 1, 1) := by decide +kernel
theorem dX12_man_100 : decode cX12_man 100 = .ok (.ishr, 1) := by decide +kernel
theorem dX12_man_101 : decode cX12_man 101 = .ok (.iconst 1, 1) := by decide +kernel
theorem dX12_man_102 : decode cX12_man 102 = .ok (.iand, 1) := by decide +kernel
theorem dX12_man_103 : decode cX12_man 103 = .ok (.ireturn, 1) := by decide +kernel
theorem dX12_man_104 : decode cX12_man 104 = .ok (.aload_n 0, 1) := by decide +kernel
theorem dX12_man_105 : decode cX12_man 105 = .ok (.getfield 33, 3) := by decide +kernel
theorem dX12_man_108 : decode cX12_man 108 = .ok (.sipush 130, 3) := by decide +kernel
theorem dX12_man_111 : decode cX12_man 111 = .ok (.iaload, 1) := by decide +kernel
theorem dX12_man_112 : decode cX12_man 112 = .ok (.iload_n 1, 1) := by decide +kernel
theorem dX12_man_113 : decode cX12_man 113 = .ok (.ishr, 1) := by decide +kernel
theorem dX12_man_114 : decode cX12_man 114 = .ok (.iconst 1, 1) := by decide +kernel
theorem dX12_man_115 : decode cX12_man 115 = .ok (.iand, 1) := by decide +kernel
theorem dX12_man_116 : decode cX12_man 116 = .ok (.ireturn, 1) := by decide +kernel
theorem dX12_man_117 : decode cX12_man 117 = .ok (.aload_n 0, 1) := by decide +kernel
theorem dX12_man_118 : decode cX12_man 118 = .ok (.getfield 33, 3) := by decide +kernel
theorem dX12_man_121 : decode cX12_man 121 = .ok (.bipush 105, 2) := by decide +kernel
theorem dX12_man_123 : decode cX12_man 123 = .ok (.iload_n 1, 1) := by decide +kernel
theorem dX12_man_124 : decode cX12_man 124 = .ok (.iadd, 1) := by decide +kernel
theorem dX12_man_125 : decode cX12_man 125 = .ok (.iaload, 1) := by decide +kernel
theorem dX12_man_126 : decode cX12_man 126 = .ok (.iconst 1, 1) := by decide +kernel
theorem dX12_man_127 : decode cX12_man 127 = .ok (.isub, 1) := by decide +kernel
theorem dX12_man_128 : decode cX12_man 128 = .ok (.ireturn, 1) := by decide +kernel
theorem dX12_man_129 : decode cX12_man 129 = .ok (.aload_n 0, 1) := by decide +kernel
theorem dX12_man_130 : decode cX12_man 130 = .ok (.getfield 33, 3) := by decide +kernel
theorem dX12_man_133 : decode cX12_man 133 = .ok (.sipush 132, 3) := by decide +kernel
theorem dX12_man_136 : decode cX12_man 136 = .ok (.iload_n 1, 1) := by decide +kernel
theorem dX12_man_137 : decode cX12_man 137 = .ok (.iadd, 1) := by decide +kernel
theorem dX12_man_138 : decode cX12_man 138 = .ok (.iaload, 1) := by decide +kernel
theorem dX12_man_139 : decode cX12_man 139 = .ok (.ireturn, 1) := by decide +kernel
theorem dX12_man_140 : decode cX12_man 140 = .ok (.aload_n 0, 1) := by decide +kernel
theorem dX12_man_141 : decode cX12_man 141 = .ok (.getfield 33, 3) := by decide +kernel
theorem dX12_man_144 : decode cX12_man 144 = .ok (.bipush 115, 2) := by decide +kernel
theorem dX12_man_146 : decode cX12_man 146 = .ok (.iload_n 1, 1) := by decide +kernel
theorem dX12_man_147 : decode cX12_man 147 = .ok (.iadd, 1) := by decide +kernel
theorem dX12_man_148 : decode cX12_man 148 = .ok (.iaload, 1) := by decide +kernel
theorem dX12_man_149 : decode cX12_man 149 = .ok (.ireturn, 1) := by decide +kernel
theorem dX12_man_150 : decode cX12_man 150 = .ok (.aload_n 0, 1) := by decide +kernel
theorem dX12_man_151 : decode cX12_man 151 = .ok (.getfield 33, 3) := by decide +kernel
theorem dX12_man_154 : decode cX12_man 154 = .ok (.sipush 232, 3) := by decide +kernel
theorem dX12_man_157 : decode cX12_man 157 = .ok (.iload_n 1, 1) := by decide +kernel
theorem dX12_man_158 : decode cX12_man 158 = .ok (.iadd, 1) := by decide +kernel
theorem dX12_man_159 : decode cX12_man 159 = .ok (.iaload, 1) := by decide +kernel
theorem dX12_man_160 : decode cX12_man 160 = .ok (.ireturn, 1) := by decide +kernel
theorem dX12_byHimself_0 : decode cX12_byHimself 0 = .ok (.aload_n 0, 1) := by decide +kernel
theorem dX12_byHimself_1 : decode cX12_byHimself 1 = .ok (.getfield 33, 3) := by decide +kernel
theorem dX12_byHimself_4 : decode cX12_byHimself 4 = .ok (.sipush 232, 3) := by decide +kernel
theorem dX12_byHimself_7 : decode cX12_byHimself 7 = .ok (.iload_n 1, 1) := by decide +kernel
theorem dX12_byHimself_8 : decode cX12_byHimself 8 = .ok (.iadd, 1) := by decide +kernel
theorem dX12_byHimself_9 : decode cX12_byHimself 9 = .ok (.iaload, 1) := by decide +kernel
theorem dX12_byHimself_10 : decode cX12_byHimself 10 = .ok (.iload_n 2, 1) := by decide +kernel
theorem dX12_byHimself_11 : decode cX12_byHimself 11 = .ok (.invokestatic 221, 3) := by decide +kernel
theorem dX12_byHimself_14 : decode cX12_byHimself 14 = .ok (.ifCond .eq 21, 3) := by decide +kernel
theorem dX12_byHimself_17 : decode cX12_byHimself 17 = .ok (.aload_n 0, 1) := by decide +kernel
theorem dX12_byHimself_18 : decode cX12_byHimself 18 = .ok (.getfield 33, 3) := by decide +kernel
theorem dX12_byHimself_21 : decode cX12_byHimself 21 = .ok (.sipush 242, 3) := by decide +kernel
theorem dX12_byHimself_24 : decode cX12_byHimself 24 = .ok (.bipush 9, 2) := by decide +kernel
theorem dX12_byHimself_26 : decode cX12_byHimself 26 = .ok (.iload_n 1, 1) := by decide +kernel
theorem dX12_byHimself_27 : decode cX12_byHimself 27 = .ok (.imul, 1) := by decide +kernel
theorem dX12_byHimself_28 : decode cX12_byHimself 28 = .ok (.iadd, 1) := by decide +kernel
theorem dX12_byHimself_29 : decode cX12_byHimself 29 = .ok (.iload_n 2, 1) := by decide +kernel
theorem dX12_byHimself_30 : decode cX12_byHimself 30 = .ok (.iadd, 1) := by decide +kernel
theorem dX12_byHimself_31 : decode cX12_byHimself 31 = .ok (.iaload, 1) := by decide +kernel
theorem dX12_byHimself_32 : decode cX12_byHimself 32 = .ok (.goto 18, 3) := by decide +kernel
theorem dX12_byHimself_35 : decode cX12_byHimself 35 = .ok (.aload_n 0, 1) := by decide +kernel
theorem dX12_byHimself_36 : decode cX12_byHimself 36 = .ok (.getfield 33, 3) := by decide +kernel
theorem dX12_byHimself_39 : decode cX12_byHimself 39 = .ok (.sipush 142, 3) := by decide +kernel
theorem dX12_byHimself_42 : decode cX12_byHimself 42 = .ok (.bipush 9, 2) := by decide +kernel
theorem dX12_byHimself_44 : decode cX12_byHimself 44 = .ok (.iload_n 1, 1) := by decide +kernel
theorem dX12_byHimself_45 : decode cX12_byHimself 45 = .ok (.imul, 1) := by decide +kernel
theorem dX12_byHimself_46 : decode cX12_byHimself 46 = .ok (.iadd, 1) := by decide +kernel
theorem dX12_byHimself_47 : decode cX12_byHimself 47 = .ok (.iload_n 2, 1) := by decide +kernel
theorem dX12_byHimself_48 : decode cX12_byHimself 48 = .ok (.iadd, 1) := by decide +kernel
theorem dX12_byHimself_49 : decode cX12_byHimself 49 = .ok (.iaload, 1) := by decide +kernel
theorem dX12_byHimself_50 : decode cX12_byHimself 50 = .ok (.ireturn, 1) := by decide +kernel
theorem dX12_saysOf_0 : decode cX12_saysOf 0 = .ok (.aload_n 0, 1) := by decide +kernel
theorem dX12_saysOf_1 : decode cX12_saysOf 1 = .ok (.getfield 33, 3) := by decide +kernel
theorem dX12_saysOf_4 : decode cX12_saysOf 4 = .ok (.bipush 105, 2) := by decide +kernel
theorem dX12_saysOf_6 : decode cX12_saysOf 6 = .ok (.iload_n 1, 1) := by decide +kernel
theorem dX12_saysOf_7 : decode cX12_saysOf 7 = .ok (.iadd, 1) := by decide +kernel
theorem dX12_saysOf_8 : decode cX12_saysOf 8 = .ok (.iaload, 1) := by decide +kernel
theorem dX12_saysOf_9 : decode cX12_saysOf 9 = .ok (.iconst 1, 1) := by decide +kernel
theorem dX12_saysOf_10 : decode cX12_saysOf 10 = .ok (.isub, 1) := by decide +kernel
theorem dX12_saysOf_11 : decode cX12_saysOf 11 = .ok (.istore_n 3, 1) := by decide +kernel
theorem dX12_saysOf_12 : decode cX12_saysOf 12 = .ok (.aload_n 0, 1) := by decide +kernel
theorem dX12_saysOf_13 : decode cX12_saysOf 13 = .ok (.getfield 33, 3) := by decide +kernel
theorem dX12_saysOf_16 : decode cX12_saysOf 16 = .ok (.sipush 232, 3) := by decide +kernel
theorem dX12_saysOf_19 : decode cX12_saysOf 19 = .ok (.iload_n 1, 1) := by decide +kernel
theorem dX12_saysOf_20 : decode cX12_saysOf 20 = .ok (.iadd, 1) := by decide +kernel
theorem dX12_saysOf_21 : decode cX12_saysOf 21 = .ok (.iaload, 1) := by decide +kernel
theorem dX12_saysOf_22 : decode cX12_saysOf 22 = .ok (.iload_n 2, 1) := by decide +kernel
theorem dX12_saysOf_23 : decode cX12_saysOf 23 = .ok (.invokestatic 221, 3) := by decide +kernel
theorem dX12_saysOf_26 : decode cX12_saysOf 26 = .ok (.ifCond .ne 20, 3) := by decide +kernel
theorem dX12_saysOf_29 : decode cX12_saysOf 29 = .ok (.iload_n 3, 1) := by decide +kernel
theorem dX12_saysOf_30 : decode cX12_saysOf 30 = .ok (.ifCond .lt 16, 3) := by decide +kernel
theorem dX12_saysOf_33 : decode cX12_saysOf 33 = .ok (.aload_n 0, 1) := by decide +kernel
theorem dX12_saysOf_34 : decode cX12_saysOf 34 = .ok (.iload_n 3, 1) := by decide +kernel
theorem dX12_saysOf_35 : decode cX12_saysOf 35 = .ok (.invokevirtual 259, 3) := by decide +kernel
theorem dX12_saysOf_38 : decode cX12_saysOf 38 = .ok (.aload_n 0, 1) := by decide +kernel
theorem dX12_saysOf_39 : decode cX12_saysOf 39 = .ok (.iload_n 1, 1) := by decide +kernel
theorem dX12_saysOf_40 : decode cX12_saysOf 40 = .ok (.invokevirtual 259, 3) := by decide +kernel
theorem dX12_saysOf_43 : decode cX12_saysOf 43 = .ok (.if_icmp .eq 10, 3) := by decide +kernel
theorem dX12_saysOf_46 : decode cX12_saysOf 46 = .ok (.aload_n 0, 1) := by decide +kernel
theorem dX12_saysOf_47 : decode cX12_saysOf 47 = .ok (.iload_n 1, 1) := by decide +kernel
theorem dX12_saysOf_48 : decode cX12_saysOf 48 = .ok (.iload_n 2, 1) := by decide +kernel
theorem dX12_saysOf_49 : decode cX12_saysOf 49 = .ok (.invokevirtual 263, 3) := by decide +kernel
theorem dX12_saysOf_52 : decode cX12_saysOf 52 = .ok (.ireturn, 1) := by decide +kernel
theorem dX12_saysOf_53 : decode cX12_saysOf 53 = .ok (.aload_n 0, 1) := by decide +kernel
theorem dX12_saysOf_54 : decode cX12_saysOf 54 = .ok (.iload_n 3, 1) := by decide +kernel
theorem dX12_saysOf_55 : decode cX12_saysOf 55 = .ok (.iload_n 2, 1) := by decide +kernel
theorem dX12_saysOf_56 : decode cX12_saysOf 56 = .ok (.invokevirtual 263, 3) := by decide +kernel
theorem dX12_saysOf_59 : decode cX12_saysOf 59 = .ok (.ireturn, 1) := by decide +kernel
theorem dX12_thinks_0 : decode cX12_thinks 0 = .ok (.aload_n 0, 1) := by decide +kernel
theorem dX12_thinks_1 : decode cX12_thinks 1 = .ok (.aload_n 0, 1) := by decide +kernel
theorem dX12_thinks_2 : decode cX12_thinks 2 = .ok (.iload_n 1, 1) := by decide +kernel
theorem dX12_thinks_3 : decode cX12_thinks 3 = .ok (.invokevirtual 252, 3) := by decide +kernel
theorem dX12_thinks_6 : decode cX12_thinks 6 = .ok (.ifCond .eq 11, 3) := by decide +kernel
theorem dX12_thinks_9 : decode cX12_thinks 9 = .ok (.aload_n 0, 1) := by decide +kernel
theorem dX12_thinks_10 : decode cX12_thinks 10 = .ok (.iload_n 2, 1) := by decide +kernel
theorem dX12_thinks_11 : decode cX12_thinks 11 = .ok (.invokevirtual 266, 3) := by decide +kernel
theorem dX12_thinks_14 : decode cX12_thinks 14 = .ok (.ifCond .ne 7, 3) := by decide +kernel
theorem dX12_thinks_17 : decode cX12_thinks 17 = .ok (.iconst 1, 1) := by decide +kernel
theorem dX12_thinks_18 : decode cX12_thinks 18 = .ok (.goto 4, 3) := by decide +kernel
theorem dX12_thinks_21 : decode cX12_thinks 21 = .ok (.iconst 0, 1) := by decide +kernel
theorem dX12_thinks_22 : decode cX12_thinks 22 = .ok (.invokevirtual 255, 3) := by decide +kernel
theorem dX12_thinks_25 : decode cX12_thinks 25 = .ok (.ifCond .eq 7, 3) := by decide +kernel
theorem dX12_thinks_28 : decode cX12_thinks 28 = .ok (.iconst 0, 1) := by decide +kernel
theorem dX12_thinks_29 : decode cX12_thinks 29 = .ok (.goto 18, 3) := by decide +kernel
theorem dX12_thinks_32 : decode cX12_thinks 32 = .ok (.aload_n 0, 1) := by decide +kernel
theorem dX12_thinks_33 : decode cX12_thinks 33 = .ok (.getfield 33, 3) := by decide +kernel
theorem dX12_thinks_36 : decode cX12_thinks 36 = .ok (.sipush 142, 3) := by decide +kernel
theorem dX12_thinks_39 : decode cX12_thinks 39 = .ok (.bipush 9, 2) := by decide +kernel
theorem dX12_thinks_41 : decode cX12_thinks 41 = .ok (.iload_n 1, 1) := by decide +kernel
theorem dX12_thinks_42 : decode cX12_thinks 42 = .ok (.imul, 1) := by decide +kernel
theorem dX12_thinks_43 : decode cX12_thinks 43 = .ok (.iadd, 1) := by decide +kernel
theorem dX12_thinks_44 : decode cX12_thinks 44 = .ok (.iload_n 2, 1) := by decide +kernel
theorem dX12_thinks_45 : decode cX12_thinks 45 = .ok (.iadd, 1) := by decide +kernel
theorem dX12_thinks_46 : decode cX12_thinks 46 = .ok (.iaload, 1) := by decide +kernel
theorem dX12_thinks_47 : decode cX12_thinks 47 = .ok (.ireturn, 1) := by decide +kernel
theorem dX12_says_0 : decode cX12_says 0 = .ok (.aload_n 0, 1) := by decide +kernel
theorem dX12_says_1 : decode cX12_says 1 = .ok (.aload_n 0, 1) := by decide +kernel
theorem dX12_says_2 : decode cX12_says 2 = .ok (.iload_n 1, 1) := by decide +kernel
theorem dX12_says_3 : decode cX12_says 3 = .ok (.invokevirtual 252, 3) := by decide +kernel
theorem dX12_says_6 : decode cX12_says 6 = .ok (.ifCond .eq 11, 3) := by decide +kernel
theorem dX12_says_9 : decode cX12_says 9 = .ok (.aload_n 0, 1) := by decide +kernel
theorem dX12_says_10 : decode cX12_says 10 = .ok (.iload_n 2, 1) := by decide +kernel
theorem dX12_says_11 : decode cX12_says 11 = .ok (.invokevirtual 266, 3) := by decide +kernel
theorem dX12_says_14 : decode cX12_says 14 = .ok (.ifCond .ne 7, 3) := by decide +kernel
theorem dX12_says_17 : decode cX12_says 17 = .ok (.iconst 1, 1) := by decide +kernel
theorem dX12_says_18 : decode cX12_says 18 = .ok (.goto 4, 3) := by decide +kernel
theorem dX12_says_21 : decode cX12_says 21 = .ok (.iconst 0, 1) := by decide +kernel
theorem dX12_says_22 : decode cX12_says 22 = .ok (.invokevirtual 255, 3) := by decide +kernel
theorem dX12_says_25 : decode cX12_says 25 = .ok (.ifCond .eq 7, 3) := by decide +kernel
theorem dX12_says_28 : decode cX12_says 28 = .ok (.iconst 0, 1) := by decide +kernel
theorem dX12_says_29 : decode cX12_says 29 = .ok (.goto 9, 3) := by decide +kernel
theorem dX12_says_32 : decode cX12_says 32 = .ok (.aload_n 0, 1) := by decide +kernel
theorem dX12_says_33 : decode cX12_says 33 = .ok (.iload_n 1, 1) := by decide +kernel
theorem dX12_says_34 : decode cX12_says 34 = .ok (.iload_n 2, 1) := by decide +kernel
theorem dX12_says_35 : decode cX12_says 35 = .ok (.invokevirtual 269, 3) := by decide +kernel
theorem dX12_says_38 : decode cX12_says 38 = .ok (.ireturn, 1) := by decide +kernel
theorem dX12_apart_0 : decode cX12_apart 0 = .ok (.iconst 0, 1) := by decide +kernel
theorem dX12_apart_1 : decode cX12_apart 1 = .ok (.istore_n 1, 1) := by decide +kernel
theorem dX12_apart_2 : decode cX12_apart 2 = .ok (.iconst 0, 1) := by decide +kernel
theorem dX12_apart_3 : decode cX12_apart 3 = .ok (.istore_n 2, 1) := by decide +kernel
theorem dX12_apart_4 : decode cX12_apart 4 = .ok (.iload_n 2, 1) := by decide +kernel
theorem dX12_apart_5 : decode cX12_apart 5 = .ok (.aload_n 0, 1) := by decide +kernel
theorem dX12_apart_6 : decode cX12_apart 6 = .ok (.getfield 33, 3) := by decide +kernel
theorem dX12_apart_9 : decode cX12_apart 9 = .ok (.iconst 1, 1) := by decide +kernel
theorem dX12_apart_10 : decode cX12_apart 10 = .ok (.iaload, 1) := by decide +kernel
theorem dX12_apart_11 : decode cX12_apart 11 = .ok (.if_icmp .ge 59, 3) := by decide +kernel
theorem dX12_apart_14 : decode cX12_apart 14 = .ok (.iconst 0, 1) := by decide +kernel
theorem dX12_apart_15 : decode cX12_apart 15 = .ok (.istore_n 3, 1) := by decide +kernel
theorem dX12_apart_16 : decode cX12_apart 16 = .ok (.iload_n 3, 1) := by decide +kernel
theorem dX12_apart_17 : decode cX12_apart 17 = .ok (.iload_n 2, 1) := by decide +kernel
theorem dX12_apart_18 : decode cX12_apart 18 = .ok (.if_icmp .ge 46, 3) := by decide +kernel
theorem dX12_apart_21 : decode cX12_apart 21 = .ok (.iload_n 1, 1) := by decide +kernel
theorem dX12_apart_22 : decode cX12_apart 22 = .ok (.aload_n 0, 1) := by decide +kernel
theorem dX12_apart_23 : decode cX12_apart 23 = .ok (.getfield 33, 3) := by decide +kernel
theorem dX12_apart_26 : decode cX12_apart 26 = .ok (.bipush 115, 2) := by decide +kernel
theorem dX12_apart_28 : decode cX12_apart 28 = .ok (.iload_n 2, 1) := by decide +kernel
theorem dX12_apart_29 : decode cX12_apart 29 = .ok (.iadd, 1) := by decide +kernel
theorem dX12_apart_30 : decode cX12_apart 30 = .ok (.iaload, 1) := by decide +kernel
theorem dX12_apart_31 : decode cX12_apart 31 = .ok (.iload_n 3, 1) := by decide +kernel
theorem dX12_apart_32 : decode cX12_apart 32 = .ok (.invokestatic 221, 3) := by decide +kernel
theorem dX12_apart_35 : decode cX12_apart 35 = .ok (.ifCond .eq 20, 3) := by decide +kernel
theorem dX12_apart_38 : decode cX12_apart 38 = .ok (.aload_n 0, 1) := by decide +kernel
theorem dX12_apart_39 : decode cX12_apart 39 = .ok (.iload_n 2, 1) := by decide +kernel
theorem dX12_apart_40 : decode cX12_apart 40 = .ok (.invokevirtual 259, 3) := by decide +kernel
theorem dX12_apart_43 : decode cX12_apart 43 = .ok (.aload_n 0, 1) := by decide +kernel
theorem dX12_apart_44 : decode cX12_apart 44 = .ok (.iload_n 3, 1) := by decide +kernel
theorem dX12_apart_45 : decode cX12_apart 45 = .ok (.invokevirtual 259, 3) := by decide +kernel
theorem dX12_apart_48 : decode cX12_apart 48 = .ok (.if_icmp .eq 7, 3) := by decide +kernel
theorem dX12_apart_51 : decode cX12_apart 51 = .ok (.iconst 1, 1) := by decide +kernel
theorem dX12_apart_52 : decode cX12_apart 52 = .ok (.goto 4, 3) := by decide +kernel
theorem dX12_apart_55 : decode cX12_apart 55 = .ok (.iconst 0, 1) := by decide +kernel
theorem dX12_apart_56 : decode cX12_apart 56 = .ok (.iadd, 1) := by decide +kernel
theorem dX12_apart_57 : decode cX12_apart 57 = .ok (.istore_n 1, 1) := by decide +kernel
theorem dX12_apart_58 : decode cX12_apart 58 = .ok (.iinc 3 1, 3) := by decide +kernel
theorem dX12_apart_61 : decode cX12_apart 61 = .ok (.goto (-45), 3) := by decide +kernel
theorem dX12_apart_64 : decode cX12_apart 64 = .ok (.iinc 2 1, 3) := by decide +kernel
theorem dX12_apart_67 : decode cX12_apart 67 = .ok (.goto (-63), 3) := by decide +kernel
theorem dX12_apart_70 : decode cX12_apart 70 = .ok (.iload_n 1, 1) := by decide +kernel
theorem dX12_apart_71 : decode cX12_apart 71 = .ok (.ireturn, 1) := by decide +kernel
theorem dX12_now_0 : decode cX12_now 0 = .ok (.aload_n 0, 1) := by decide +kernel
theorem dX12_now_1 : decode cX12_now 1 = .ok (.iconst 0, 1) := by decide +kernel
theorem dX12_now_2 : decode cX12_now 2 = .ok (.putfield 1, 3) := by decide +kernel
theorem dX12_now_5 : decode cX12_now 5 = .ok (.iload_n 1, 1) := by decide +kernel
theorem dX12_now_6 : decode cX12_now 6 = .ok (.tableswitch 124 0 7 #[46, 54, 75, 83, 92, 101, 110, 115], 46) := by decide +kernel
theorem dX12_now_52 : decode cX12_now 52 = .ok (.aload_n 0, 1) := by decide +kernel
theorem dX12_now_53 : decode cX12_now 53 = .ok (.getfield 33, 3) := by decide +kernel
theorem dX12_now_56 : decode cX12_now 56 = .ok (.bipush 125, 2) := by decide +kernel
theorem dX12_now_58 : decode cX12_now 58 = .ok (.iaload, 1) := by decide +kernel
theorem dX12_now_59 : decode cX12_now 59 = .ok (.ireturn, 1) := by decide +kernel
theorem dX12_now_60 : decode cX12_now 60 = .ok (.aload_n 0, 1) := by decide +kernel
theorem dX12_now_61 : decode cX12_now 61 = .ok (.getfield 33, 3) := by decide +kernel
theorem dX12_now_64 : decode cX12_now 64 = .ok (.iconst 0, 1) := by decide +kernel
theorem dX12_now_65 : decode cX12_now 65 = .ok (.iaload, 1) := by decide +kernel
theorem dX12_now_66 : decode cX12_now 66 = .ok (.ifCond .ne 7, 3) := by decide +kernel
theorem dX12_now_69 : decode cX12_now 69 = .ok (.iconst (-1), 1) := by decide +kernel
theorem dX12_now_70 : decode cX12_now 70 = .ok (.goto 10, 3) := by decide +kernel
theorem dX12_now_73 : decode cX12_now 73 = .ok (.aload_n 0, 1) := by decide +kernel
theorem dX12_now_74 : decode cX12_now 74 = .ok (.getfield 33, 3) := by decide +kernel
theorem dX12_now_77 : decode cX12_now 77 = .ok (.bipush 126, 2) := by decide +kernel
theorem dX12_now_79 : decode cX12_now 79 = .ok (.iaload, 1) := by decide +kernel
theorem dX12_now_80 : decode cX12_now 80 = .ok (.ireturn, 1) := by decide +kernel
theorem dX12_now_81 : decode cX12_now 81 = .ok (.aload_n 0, 1) := by decide +kernel
theorem dX12_now_82 : decode cX12_now 82 = .ok (.getfield 33, 3) := by decide +kernel
theorem dX12_now_85 : decode cX12_now 85 = .ok (.bipush 127, 2) := by decide +kernel
theorem dX12_now_87 : decode cX12_now 87 = .ok (.iaload, 1) := by decide +kernel
theorem dX12_now_88 : decode cX12_now 88 = .ok (.ireturn, 1) := by decide +kernel
theorem dX12_now_89 : decode cX12_now 89 = .ok (.aload_n 0, 1) := by decide +kernel
theorem dX12_now_90 : decode cX12_now 90 = .ok (.getfield 33, 3) := by decide +kernel
theorem dX12_now_93 : decode cX12_now 93 = .ok (.sipush 128, 3) := by decide +kernel
theorem dX12_now_96 : decode cX12_now 96 = .ok (.iaload, 1) := by decide +kernel
theorem dX12_now_97 : decode cX12_now 97 = .ok (.ireturn, 1) := by decide +kernel
theorem dX12_now_98 : decode cX12_now 98 = .ok (.aload_n 0, 1) := by decide +kernel
theorem dX12_now_99 : decode cX12_now 99 = .ok (.getfield 33, 3) := by decide +kernel
theorem dX12_now_102 : decode cX12_now 102 = .ok (.sipush 129, 3) := by decide +kernel
theorem dX12_now_105 : decode cX12_now 105 = .ok (.iaload, 1) := by decide +kernel
theorem dX12_now_106 : decode cX12_now 106 = .ok (.ireturn, 1) := by decide +kernel
theorem dX12_now_107 : decode cX12_now 107 = .ok (.aload_n 0, 1) := by decide +kernel
theorem dX12_now_108 : decode cX12_now 108 = .ok (.getfield 33, 3) := by decide +kernel
theorem dX12_now_111 : decode cX12_now 111 = .ok (.sipush 130, 3) := by decide +kernel
theorem dX12_now_114 : decode cX12_now 114 = .ok (.iaload, 1) := by decide +kernel
theorem dX12_now_115 : decode cX12_now 115 = .ok (.ireturn, 1) := by decide +kernel
theorem dX12_now_116 : decode cX12_now 116 = .ok (.aload_n 0, 1) := by decide +kernel
theorem dX12_now_117 : decode cX12_now 117 = .ok (.invokevirtual 272, 3) := by decide +kernel
theorem dX12_now_120 : decode cX12_now 120 = .ok (.ireturn, 1) := by decide +kernel
theorem dX12_now_121 : decode cX12_now 121 = .ok (.aload_n 0, 1) := by decide +kernel
theorem dX12_now_122 : decode cX12_now 122 = .ok (.getfield 33, 3) := by decide +kernel
theorem dX12_now_125 : decode cX12_now 125 = .ok (.sipush 131, 3) := by decide +kernel
theorem dX12_now_128 : decode cX12_now 128 = .ok (.iaload, 1) := by decide +kernel
theorem dX12_now_129 : decode cX12_now 129 = .ok (.ireturn, 1) := by decide +kernel
theorem dX12_now_130 : decode cX12_now 130 = .ok (.iconst (-1), 1) := by decide +kernel
theorem dX12_now_131 : decode cX12_now 131 = .ok (.ireturn, 1) := by decide +kernel
theorem dX12_sumOf_0 : decode cX12_sumOf 0 = .ok (.iconst 0, 1) := by decide +kernel
theorem dX12_sumOf_1 : decode cX12_sumOf 1 = .ok (.istore_n 3, 1) := by decide +kernel
theorem dX12_sumOf_2 : decode cX12_sumOf 2 = .ok (.iconst 0, 1) := by decide +kernel
theorem dX12_sumOf_3 : decode cX12_sumOf 3 = .ok (.istore 4, 2) := by decide +kernel
theorem dX12_sumOf_5 : decode cX12_sumOf 5 = .ok (.iload 4, 2) := by decide +kernel
theorem dX12_sumOf_7 : decode cX12_sumOf 7 = .ok (.aload_n 0, 1) := by decide +kernel
theorem dX12_sumOf_8 : decode cX12_sumOf 8 = .ok (.getfield 33, 3) := by decide +kernel
theorem dX12_sumOf_11 : decode cX12_sumOf 11 = .ok (.iconst 1, 1) := by decide +kernel
theorem dX12_sumOf_12 : decode cX12_sumOf 12 = .ok (.iaload, 1) := by decide +kernel
theorem dX12_sumOf_13 : decode cX12_sumOf 13 = .ok (.if_icmp .ge 43, 3) := by decide +kernel
theorem dX12_sumOf_16 : decode cX12_sumOf 16 = .ok (.iload_n 3, 1) := by decide +kernel
theorem dX12_sumOf_17 : decode cX12_sumOf 17 = .ok (.iload_n 1, 1) := by decide +kernel
theorem dX12_sumOf_18 : decode cX12_sumOf 18 = .ok (.aload_n 0, 1) := by decide +kernel
theorem dX12_sumOf_19 : decode cX12_sumOf 19 = .ok (.getfield 33, 3) := by decide +kernel
theorem dX12_sumOf_22 : decode cX12_sumOf 22 = .ok (.sipush 131, 3) := by decide +kernel
theorem dX12_sumOf_25 : decode cX12_sumOf 25 = .ok (.iaload, 1) := by decide +kernel
theorem dX12_sumOf_26 : decode cX12_sumOf 26 = .ok (.iconst (-1), 1) := by decide +kernel
theorem dX12_sumOf_27 : decode cX12_sumOf 27 = .ok (.ixor, 1) := by decide +kernel
theorem dX12_sumOf_28 : decode cX12_sumOf 28 = .ok (.iand, 1) := by decide +kernel
theorem dX12_sumOf_29 : decode cX12_sumOf 29 = .ok (.iload 4, 2) := by decide +kernel
theorem dX12_sumOf_31 : decode cX12_sumOf 31 = .ok (.invokestatic 221, 3) := by decide +kernel
theorem dX12_sumOf_34 : decode cX12_sumOf 34 = .ok (.ifCond .eq 13, 3) := by decide +kernel
theorem dX12_sumOf_37 : decode cX12_sumOf 37 = .ok (.aload_n 0, 1) := by decide +kernel
theorem dX12_sumOf_38 : decode cX12_sumOf 38 = .ok (.iload 4, 2) := by decide +kernel
theorem dX12_sumOf_40 : decode cX12_sumOf 40 = .ok (.iload_n 2, 1) := by decide +kernel
theorem dX12_sumOf_41 : decode cX12_sumOf 41 = .ok (.invokevirtual 269, 3) := by decide +kernel
theorem dX12_sumOf_44 : decode cX12_sumOf 44 = .ok (.goto 4, 3) := by decide +kernel
theorem dX12_sumOf_47 : decode cX12_sumOf 47 = .ok (.iconst 0, 1) := by decide +kernel
theorem dX12_sumOf_48 : decode cX12_sumOf 48 = .ok (.iadd, 1) := by decide +kernel
theorem dX12_sumOf_49 : decode cX12_sumOf 49 = .ok (.istore_n 3, 1) := by decide +kernel
theorem dX12_sumOf_50 : decode cX12_sumOf 50 = .ok (.iinc 4 1, 3) := by decide +kernel
theorem dX12_sumOf_53 : decode cX12_sumOf 53 = .ok (.goto (-48), 3) := by decide +kernel
theorem dX12_sumOf_56 : decode cX12_sumOf 56 = .ok (.iload_n 3, 1) := by decide +kernel
theorem dX12_sumOf_57 : decode cX12_sumOf 57 = .ok (.ireturn, 1) := by decide +kernel
theorem dX12_balances_0 : decode cX12_balances 0 = .ok (.iload_n 1, 1) := by decide +kernel
theorem dX12_balances_1 : decode cX12_balances 1 = .ok (.invokestatic 275, 3) := by decide +kernel
theorem dX12_balances_4 : decode cX12_balances 4 = .ok (.aload_n 0, 1) := by decide +kernel
theorem dX12_balances_5 : decode cX12_balances 5 = .ok (.getfield 33, 3) := by decide +kernel
theorem dX12_balances_8 : decode cX12_balances 8 = .ok (.iconst 3, 1) := by decide +kernel
theorem dX12_balances_9 : decode cX12_balances 9 = .ok (.iaload, 1) := by decide +kernel
theorem dX12_balances_10 : decode cX12_balances 10 = .ok (.if_icmp .gt 7, 3) := by decide +kernel
theorem dX12_balances_13 : decode cX12_balances 13 = .ok (.iconst 1, 1) := by decide +kernel
theorem dX12_balances_14 : decode cX12_balances 14 = .ok (.goto 4, 3) := by decide +kernel
theorem dX12_balances_17 : decode cX12_balances 17 = .ok (.iconst 0, 1) := by decide +kernel
theorem dX12_balances_18 : decode cX12_balances 18 = .ok (.ireturn, 1) := by decide +kernel
theorem dX12_areFoes_0 : decode cX12_areFoes 0 = .ok (.iconst 0, 1) := by decide +kernel
theorem dX12_areFoes_1 : decode cX12_areFoes 1 = .ok (.istore_n 3, 1) := by decide +kernel
theorem dX12_areFoes_2 : decode cX12_areFoes 2 = .ok (.iconst 0, 1) := by decide +kernel
theorem dX12_areFoes_3 : decode cX12_areFoes 3 = .ok (.istore 4, 2) := by decide +kernel
theorem dX12_areFoes_5 : decode cX12_areFoes 5 = .ok (.iconst 0, 1) := by decide +kernel
theorem dX12_areFoes_6 : decode cX12_areFoes 6 = .ok (.istore 5, 2) := by decide +kernel
theorem dX12_areFoes_8 : decode cX12_areFoes 8 = .ok (.iload 5, 2) := by decide +kernel
theorem dX12_areFoes_10 : decode cX12_areFoes 10 = .ok (.aload_n 0, 1) := by decide +kernel
theorem dX12_areFoes_11 : decode cX12_areFoes 11 = .ok (.getfield 33, 3) := by decide +kernel
theorem dX12_areFoes_14 : decode cX12_areFoes 14 = .ok (.iconst 0, 1) := by decide +kernel
theorem dX12_areFoes_15 : decode cX12_areFoes 15 = .ok (.iaload, 1) := by decide +kernel
theorem dX12_areFoes_16 : decode cX12_areFoes 16 = .ok (.if_icmp .ge 116, 3) := by decide +kernel
theorem dX12_areFoes_19 : decode cX12_areFoes 19 = .ok (.aload_n 0, 1) := by decide +kernel
theorem dX12_areFoes_20 : decode cX12_areFoes 20 = .ok (.iload_n 1, 1) := by decide +kernel
theorem dX12_areFoes_21 : decode cX12_areFoes 21 = .ok (.iload 5, 2) := by decide +kernel
theorem dX12_areFoes_23 : decode cX12_areFoes 23 = .ok (.invokevirtual 269, 3) := by decide +kernel
theorem dX12_areFoes_26 : decode cX12_areFoes 26 = .ok (.istore 6, 2) := by decide +kernel
theorem dX12_areFoes_28 : decode cX12_areFoes 28 = .ok (.aload_n 0, 1) := by decide +kernel
theorem dX12_areFoes_29 : decode cX12_areFoes 29 = .ok (.iload_n 2, 1) := by decide +kernel
theorem dX12_areFoes_30 : decode cX12_areFoes 30 = .ok (.iload 5, 2) := by decide +kernel
theorem dX12_areFoes_32 : decode cX12_areFoes 32 = .ok (.invokevirtual 269, 3) := by decide +kernel
theorem dX12_areFoes_35 : decode cX12_areFoes 35 = .ok (.istore 7, 2) := by decide +kernel
theorem dX12_areFoes_37 : decode cX12_areFoes 37 = .ok (.iload 6, 2) := by decide +kernel
theorem dX12_areFoes_39 : decode cX12_areFoes 39 = .ok (.invokestatic 275, 3) := by decide +kernel
theorem dX12_areFoes_42 : decode cX12_areFoes 42 = .ok (.iconst 5, 1) := by decide +kernel
theorem dX12_areFoes_43 : decode cX12_areFoes 43 = .ok (.if_icmp .lt 83, 3) := by decide +kernel
theorem dX12_areFoes_46 : decode cX12_areFoes 46 = .ok (.iload 7, 2) := by decide +kernel
theorem dX12_areFoes_48 : decode cX12_areFoes 48 = .ok (.invokestatic 275, 3) := by decide +kernel
theorem dX12_areFoes_51 : decode cX12_areFoes 51 = .ok (.iconst 5, 1) := by decide +kernel
theorem dX12_areFoes_52 : decode cX12_areFoes 52 = .ok (.if_icmp .ge 6, 3) := by decide +kernel
theorem dX12_areFoes_55 : decode cX12_areFoes 55 = .ok (.goto 71, 3) := by decide +kernel
theorem dX12_areFoes_58 : decode cX12_areFoes 58 = .ok (.iload_n 3, 1) := by decide +kernel
theorem dX12_areFoes_59 : decode cX12_areFoes 59 = .ok (.ifCond .ne 26, 3) := by decide +kernel
theorem dX12_areFoes_62 : decode cX12_areFoes 62 = .ok (.iload 6, 2) := by decide +kernel
theorem dX12_areFoes_64 : decode cX12_areFoes 64 = .ok (.ifCond .le 7, 3) := by decide +kernel
theorem dX12_areFoes_67 : decode cX12_areFoes 67 = .ok (.iconst 1, 1) := by decide +kernel
theorem dX12_areFoes_68 : decode cX12_areFoes 68 = .ok (.goto 4, 3) := by decide +kernel
theorem dX12_areFoes_71 : decode cX12_areFoes 71 = .ok (.iconst 0, 1) := by decide +kernel
theorem dX12_areFoes_72 : decode cX12_areFoes 72 = .ok (.iload 7, 2) := by decide +kernel
theorem dX12_areFoes_74 : decode cX12_areFoes 74 = .ok (.ifCond .le 7, 3) := by decide +kernel
theorem dX12_areFoes_77 : decode cX12_areFoes 77 = .ok (.iconst 1, 1) := by decide +kernel
theorem dX12_areFoes_78 : decode cX12_areFoes 78 = .ok (.goto 4, 3) := by decide +kernel
theorem dX12_areFoes_81 : decode cX12_areFoes 81 = .ok (.iconst 0, 1) := by decide +kernel
theorem dX12_areFoes_82 : decode cX12_areFoes 82 = .ok (.if_icmp .eq 7, 3) := by decide +kernel
theorem dX12_areFoes_85 : decode cX12_areFoes 85 = .ok (.iconst 1, 1) := by decide +kernel
theorem dX12_areFoes_86 : decode cX12_areFoes 86 = .ok (.goto 4, 3) := by decide +kernel
theorem dX12_areFoes_89 : decode cX12_areFoes 89 = .ok (.iconst 0, 1) := by decide +kernel
theorem dX12_areFoes_90 : decode cX12_areFoes 90 = .ok (.istore_n 3, 1) := by decide +kernel
theorem dX12_areFoes_91 : decode cX12_areFoes 91 = .ok (.iload 4, 2) := by decide +kernel
theorem dX12_areFoes_93 : decode cX12_areFoes 93 = .ok (.ifCond .ne 26, 3) := by decide +kernel
theorem dX12_areFoes_96 : decode cX12_areFoes 96 = .ok (.iload 6, 2) := by decide +kernel
theorem dX12_areFoes_98 : decode cX12_areFoes 98 = .ok (.ifCond .le 7, 3) := by decide +kernel
theorem dX12_areFoes_101 : decode cX12_areFoes 101 = .ok (.iconst 1, 1) := by decide +kernel
theorem dX12_areFoes_102 : decode cX12_areFoes 102 = .ok (.goto 4, 3) := by decide +kernel
theorem dX12_areFoes_105 : decode cX12_areFoes 105 = .ok (.iconst 0, 1) := by decide +kernel
theorem dX12_areFoes_106 : decode cX12_areFoes 106 = .ok (.iload 7, 2) := by decide +kernel
theorem dX12_areFoes_108 : decode cX12_areFoes 108 = .ok (.ifCond .le 7, 3) := by decide +kernel
theorem dX12_areFoes_111 : decode cX12_areFoes 111 = .ok (.iconst 1, 1) := by decide +kernel
theorem dX12_areFoes_112 : decode cX12_areFoes 112 = .ok (.goto 4, 3) := by decide +kernel
theorem dX12_areFoes_115 : decode cX12_areFoes 115 = .ok (.iconst 0, 1) := by decide +kernel
theorem dX12_areFoes_116 : decode cX12_areFoes 116 = .ok (.if_icmp .ne 7, 3) := by decide +kernel
theorem dX12_areFoes_119 : decode cX12_areFoes 119 = .ok (.iconst 1, 1) := by decide +kernel
theorem dX12_areFoes_120 : decode cX12_areFoes 120 = .ok (.goto 4, 3) := by decide +kernel
theorem dX12_areFoes_123 : decode cX12_areFoes 123 = .ok (.iconst 0, 1) := by decide +kernel
theorem dX12_areFoes_124 : decode cX12_areFoes 124 = .ok (.istore 4, 2) := by decide +kernel
theorem dX12_areFoes_126 : decode cX12_areFoes 126 = .ok (.iinc 5 1, 3) := by decide +kernel
theorem dX12_areFoes_129 : decode cX12_areFoes 129 = .ok (.goto (-121), 3) := by decide +kernel
theorem dX12_areFoes_132 : decode cX12_areFoes 132 = .ok (.iload_n 3, 1) := by decide +kernel
theorem dX12_areFoes_133 : decode cX12_areFoes 133 = .ok (.ifCond .eq 12, 3) := by decide +kernel
theorem dX12_areFoes_136 : decode cX12_areFoes 136 = .ok (.iload 4, 2) := by decide +kernel
theorem dX12_areFoes_138 : decode cX12_areFoes 138 = .ok (.ifCond .eq 7, 3) := by decide +kernel
theorem dX12_areFoes_141 : decode cX12_areFoes 141 = .ok (.iconst 1, 1) := by decide +kernel
theorem dX12_areFoes_142 : decode cX12_areFoes 142 = .ok (.goto 4, 3) := by decide +kernel
theorem dX12_areFoes_145 : decode cX12_areFoes 145 = .ok (.iconst 0, 1) := by decide +kernel
theorem dX12_areFoes_146 : decode cX12_areFoes 146 = .ok (.ireturn, 1) := by decide +kernel
theorem dX12_hasFoes_0 : decode cX12_hasFoes 0 = .ok (.iconst 0, 1) := by decide +kernel
theorem dX12_hasFoes_1 : decode cX12_hasFoes 1 = .ok (.istore_n 2, 1) := by decide +kernel
theorem dX12_hasFoes_2 : decode cX12_hasFoes 2 = .ok (.iload_n 2, 1) := by decide +kernel
theorem dX12_hasFoes_3 : decode cX12_hasFoes 3 = .ok (.aload_n 0, 1) := by decide +kernel
theorem dX12_hasFoes_4 : decode cX12_hasFoes 4 = .ok (.getfield 33, 3) := by decide +kernel
theorem dX12_hasFoes_7 : decode cX12_hasFoes 7 = .ok (.iconst 1, 1) := by decide +kernel
theorem dX12_hasFoes_8 : decode cX12_hasFoes 8 = .ok (.iaload, 1) := by decide +kernel
theorem dX12_hasFoes_9 : decode cX12_hasFoes 9 = .ok (.if_icmp .ge 49, 3) := by decide +kernel
theorem dX12_hasFoes_12 : decode cX12_hasFoes 12 = .ok (.iconst 0, 1) := by decide +kernel
theorem dX12_hasFoes_13 : decode cX12_hasFoes 13 = .ok (.istore_n 3, 1) := by decide +kernel
theorem dX12_hasFoes_14 : decode cX12_hasFoes 14 = .ok (.iload_n 3, 1) := by decide +kernel
theorem dX12_hasFoes_15 : decode cX12_hasFoes 15 = .ok (.iload_n 2, 1) := by decide +kernel
theorem dX12_hasFoes_16 : decode cX12_hasFoes 16 = .ok (.if_icmp .ge 36, 3) := by decide +kernel
theorem dX12_hasFoes_19 : decode cX12_hasFoes 19 = .ok (.iload_n 1, 1) := by decide +kernel
theorem dX12_hasFoes_20 : decode cX12_hasFoes 20 = .ok (.iload_n 2, 1) := by decide +kernel
theorem dX12_hasFoes_21 : decode cX12_hasFoes 21 = .ok (.invokestatic 221, 3) := by decide +kernel
theorem dX12_hasFoes_24 : decode cX12_hasFoes 24 = .ok (.ifCond .eq 22, 3) := by decide +kernel
theorem dX12_hasFoes_27 : decode cX12_hasFoes 27 = .ok (.iload_n 1, 1) := by decide +kernel
theorem dX12_hasFoes_28 : decode cX12_hasFoes 28 = .ok (.iload_n 3, 1) := by decide +kernel
theorem dX12_hasFoes_29 : decode cX12_hasFoes 29 = .ok (.invokestatic 221, 3) := by decide +kernel
theorem dX12_hasFoes_32 : decode cX12_hasFoes 32 = .ok (.ifCond .eq 14, 3) := by decide +kernel
theorem dX12_hasFoes_35 : decode cX12_hasFoes 35 = .ok (.aload_n 0, 1) := by decide +kernel
theorem dX12_hasFoes_36 : decode cX12_hasFoes 36 = .ok (.iload_n 2, 1) := by decide +kernel
theorem dX12_hasFoes_37 : decode cX12_hasFoes 37 = .ok (.iload_n 3, 1) := by decide +kernel
theorem dX12_hasFoes_38 : decode cX12_hasFoes 38 = .ok (.invokevirtual 278, 3) := by decide +kernel
theorem dX12_hasFoes_41 : decode cX12_hasFoes 41 = .ok (.ifCond .eq 5, 3) := by decide +kernel
theorem dX12_hasFoes_44 : decode cX12_hasFoes 44 = .ok (.iconst 1, 1) := by decide +kernel
theorem dX12_hasFoes_45 : decode cX12_hasFoes 45 = .ok (.ireturn, 1) := by decide +kernel
theorem dX12_hasFoes_46 : decode cX12_hasFoes 46 = .ok (.iinc 3 1, 3) := by decide +kernel
theorem dX12_hasFoes_49 : decode cX12_hasFoes 49 = .ok (.goto (-35), 3) := by decide +kernel
theorem dX12_hasFoes_52 : decode cX12_hasFoes 52 = .ok (.iinc 2 1, 3) := by decide +kernel
theorem dX12_hasFoes_55 : decode cX12_hasFoes 55 = .ok (.goto (-53), 3) := by decide +kernel
theorem dX12_hasFoes_58 : decode cX12_hasFoes 58 = .ok (.iconst 0, 1) := by decide +kernel
theorem dX12_hasFoes_59 : decode cX12_hasFoes 59 = .ok (.ireturn, 1) := by decide +kernel
theorem dX12_whyCross_0 : decode cX12_whyCross 0 = .ok (.iload_n 1, 1) := by decide +kernel
theorem dX12_whyCross_1 : decode cX12_whyCross 1 = .ok (.ifCond .eq 14, 3) := by decide +kernel
theorem dX12_whyCross_4 : decode cX12_whyCross 4 = .ok (.iload_n 1, 1) := by decide +kernel
theorem dX12_whyCross_5 : decode cX12_whyCross 5 = .ok (.aload_n 0, 1) := by decide +kernel
theorem dX12_whyCross_6 : decode cX12_whyCross 6 = .ok (.invokevirtual 281, 3) := by decide +kernel
theorem dX12_whyCross_9 : decode cX12_whyCross 9 = .ok (.iconst (-1), 1) := by decide +kernel
theorem dX12_whyCross_10 : decode cX12_whyCross 10 = .ok (.ixor, 1) := by decide +kernel
theorem dX12_whyCross_11 : decode cX12_whyCross 11 = .ok (.iand, 1) := by decide +kernel
theorem dX12_whyCross_12 : decode cX12_whyCross 12 = .ok (.ifCond .eq 5, 3) := by decide +kernel
theorem dX12_whyCross_15 : decode cX12_whyCross 15 = .ok (.iconst 1, 1) := by decide +kernel
theorem dX12_whyCross_16 : decode cX12_whyCross 16 = .ok (.ireturn, 1) := by decide +kernel
theorem dX12_whyCross_17 : decode cX12_whyCross 17 = .ok (.iload_n 1, 1) := by decide +kernel
theorem dX12_whyCross_18 : decode cX12_whyCross 18 = .ok (.invokestatic 284, 3) := by decide +kernel
theorem dX12_whyCross_21 : decode cX12_whyCross 21 = .ok (.aload_n 0, 1) := by decide +kernel
theorem dX12_whyCross_22 : decode cX12_whyCross 22 = .ok (.getfield 33, 3) := by decide +kernel
theorem dX12_whyCross_25 : decode cX12_whyCross 25 = .ok (.iconst 2, 1) := by decide +kernel
theorem dX12_whyCross_26 : decode cX12_whyCross 26 = .ok (.iaload, 1) := by decide +kernel
theorem dX12_whyCross_27 : decode cX12_whyCross 27 = .ok (.if_icmp .le 5, 3) := by decide +kernel
theorem dX12_whyCross_30 : decode cX12_whyCross 30 = .ok (.iconst 2, 1) := by decide +kernel
theorem dX12_whyCross_31 : decode cX12_whyCross 31 = .ok (.ireturn, 1) := by decide +kernel
theorem dX12_whyCross_32 : decode cX12_whyCross 32 = .ok (.aload_n 0, 1) := by decide +kernel
theorem dX12_whyCross_33 : decode cX12_whyCross 33 = .ok (.getfield 33, 3) := by decide +kernel
theorem dX12_whyCross_36 : decode cX12_whyCross 36 = .ok (.iconst 0, 1) := by decide +kernel
theorem dX12_whyCross_37 : decode cX12_whyCross 37 = .ok (.iaload, 1) := by decide +kernel
theorem dX12_whyCross_38 : decode cX12_whyCross 38 = .ok (.ifCond .eq 22, 3) := by decide +kernel
theorem dX12_whyCross_41 : decode cX12_whyCross 41 = .ok (.aload_n 0, 1) := by decide +kernel
theorem dX12_whyCross_42 : decode cX12_whyCross 42 = .ok (.aload_n 0, 1) := by decide +kernel
theorem dX12_whyCross_43 : decode cX12_whyCross 43 = .ok (.iload_n 1, 1) := by decide +kernel
theorem dX12_whyCross_44 : decode cX12_whyCross 44 = .ok (.aload_n 0, 1) := by decide +kernel
theorem dX12_whyCross_45 : decode cX12_whyCross 45 = .ok (.getfield 33, 3) := by decide +kernel
theorem dX12_whyCross_48 : decode cX12_whyCross 48 = .ok (.bipush 126, 2) := by decide +kernel
theorem dX12_whyCross_50 : decode cX12_whyCross 50 = .ok (.iaload, 1) := by decide +kernel
theorem dX12_whyCross_51 : decode cX12_whyCross 51 = .ok (.invokevirtual 287, 3) := by decide +kernel
theorem dX12_whyCross_54 : decode cX12_whyCross 54 = .ok (.invokevirtual 290, 3) := by decide +kernel
theorem dX12_whyCross_57 : decode cX12_whyCross 57 = .ok (.ifCond .ne 5, 3) := by decide +kernel
theorem dX12_whyCross_60 : decode cX12_whyCross 60 = .ok (.iconst 3, 1) := by decide +kernel
theorem dX12_whyCross_61 : decode cX12_whyCross 61 = .ok (.ireturn, 1) := by decide +kernel
theorem dX12_whyCross_62 : decode cX12_whyCross 62 = .ok (.aload_n 0, 1) := by decide +kernel
theorem dX12_whyCross_63 : decode cX12_whyCross 63 = .ok (.iload_n 1, 1) := by decide +kernel
theorem dX12_whyCross_64 : decode cX12_whyCross 64 = .ok (.invokevirtual 293, 3) := by decide +kernel
theorem dX12_whyCross_67 : decode cX12_whyCross 67 = .ok (.ifCond .eq 7, 3) := by decide +kernel
theorem dX12_whyCross_70 : decode cX12_whyCross 70 = .ok (.iconst 4, 1) := by decide +kernel
theorem dX12_whyCross_71 : decode cX12_whyCross 71 = .ok (.goto 4, 3) := by decide +kernel
theorem dX12_whyCross_74 : decode cX12_whyCross 74 = .ok (.iconst 0, 1) := by decide +kernel
theorem dX12_whyCross_75 : decode cX12_whyCross 75 = .ok (.ireturn, 1) := by decide +kernel
theorem dX12_crosses_0 : decode cX12_crosses 0 = .ok (.aload_n 0, 1) := by decide +kernel
theorem dX12_crosses_1 : decode cX12_crosses 1 = .ok (.getfield 33, 3) := by decide +kernel
theorem dX12_crosses_4 : decode cX12_crosses 4 = .ok (.sipush 129, 3) := by decide +kernel
theorem dX12_crosses_7 : decode cX12_crosses 7 = .ok (.dup2, 1) := by decide +kernel
theorem dX12_crosses_8 : decode cX12_crosses 8 = .ok (.iaload, 1) := by decide +kernel
theorem dX12_crosses_9 : decode cX12_crosses 9 = .ok (.iload_n 1, 1) := by decide +kernel
theorem dX12_crosses_10 : decode cX12_crosses 10 = .ok (.ixor, 1) := by decide +kernel
theorem dX12_crosses_11 : decode cX12_crosses 11 = .ok (.iastore, 1) := by decide +kernel
theorem dX12_crosses_12 : decode cX12_crosses 12 = .ok (.aload_n 0, 1) := by decide +kernel
theorem dX12_crosses_13 : decode cX12_crosses 13 = .ok (.getfield 33, 3) := by decide +kernel
theorem dX12_crosses_16 : decode cX12_crosses 16 = .ok (.bipush 125, 2) := by decide +kernel
theorem dX12_crosses_18 : decode cX12_crosses 18 = .ok (.dup2, 1) := by decide +kernel
theorem dX12_crosses_19 : decode cX12_crosses 19 = .ok (.iaload, 1) := by decide +kernel
theorem dX12_crosses_20 : decode cX12_crosses 20 = .ok (.iconst 1, 1) := by decide +kernel
theorem dX12_crosses_21 : decode cX12_crosses 21 = .ok (.ixor, 1) := by decide +kernel
theorem dX12_crosses_22 : decode cX12_crosses 22 = .ok (.iastore, 1) := by decide +kernel
theorem dX12_crosses_23 : decode cX12_crosses 23 = .ok (.aload_n 0, 1) := by decide +kernel
theorem dX12_crosses_24 : decode cX12_crosses 24 = .ok (.getfield 33, 3) := by decide +kernel
theorem dX12_crosses_27 : decode cX12_crosses 27 = .ok (.sipush 131, 3) := by decide +kernel
theorem dX12_crosses_30 : decode cX12_crosses 30 = .ok (.dup2, 1) := by decide +kernel
theorem dX12_crosses_31 : decode cX12_crosses 31 = .ok (.iaload, 1) := by decide +kernel
theorem dX12_crosses_32 : decode cX12_crosses 32 = .ok (.iload_n 1, 1) := by decide +kernel
theorem dX12_crosses_33 : decode cX12_crosses 33 = .ok (.iconst (-1), 1) := by decide +kernel
theorem dX12_crosses_34 : decode cX12_crosses 34 = .ok (.ixor, 1) := by decide +kernel
theorem dX12_crosses_35 : decode cX12_crosses 35 = .ok (.iand, 1) := by decide +kernel
theorem dX12_crosses_36 : decode cX12_crosses 36 = .ok (.iastore, 1) := by decide +kernel
theorem dX12_crosses_37 : decode cX12_crosses 37 = .ok (.aload_n 0, 1) := by decide +kernel
theorem dX12_crosses_38 : decode cX12_crosses 38 = .ok (.getfield 33, 3) := by decide +kernel
theorem dX12_crosses_41 : decode cX12_crosses 41 = .ok (.sipush 128, 3) := by decide +kernel
theorem dX12_crosses_44 : decode cX12_crosses 44 = .ok (.dup2, 1) := by decide +kernel
theorem dX12_crosses_45 : decode cX12_crosses 45 = .ok (.iaload, 1) := by decide +kernel
theorem dX12_crosses_46 : decode cX12_crosses 46 = .ok (.iconst 1, 1) := by decide +kernel
theorem dX12_crosses_47 : decode cX12_crosses 47 = .ok (.iadd, 1) := by decide +kernel
theorem dX12_crosses_48 : decode cX12_crosses 48 = .ok (.iastore, 1) := by decide +kernel
theorem dX12_crosses_49 : decode cX12_crosses 49 = .ok (.iconst 0, 1) := by decide +kernel
theorem dX12_crosses_50 : decode cX12_crosses 50 = .ok (.istore_n 2, 1) := by decide +kernel
theorem dX12_crosses_51 : decode cX12_crosses 51 = .ok (.iload_n 2, 1) := by decide +kernel
theorem dX12_crosses_52 : decode cX12_crosses 52 = .ok (.aload_n 0, 1) := by decide +kernel
theorem dX12_crosses_53 : decode cX12_crosses 53 = .ok (.getfield 33, 3) := by decide +kernel
theorem dX12_crosses_56 : decode cX12_crosses 56 = .ok (.iconst 1, 1) := by decide +kernel
theorem dX12_crosses_57 : decode cX12_crosses 57 = .ok (.iaload, 1) := by decide +kernel
theorem dX12_crosses_58 : decode cX12_crosses 58 = .ok (.if_icmp .ge 56, 3) := by decide +kernel
theorem dX12_crosses_61 : decode cX12_crosses 61 = .ok (.iload_n 1, 1) := by decide +kernel
theorem dX12_crosses_62 : decode cX12_crosses 62 = .ok (.iload_n 2, 1) := by decide +kernel
theorem dX12_crosses_63 : decode cX12_crosses 63 = .ok (.invokestatic 221, 3) := by decide +kernel
theorem dX12_crosses_66 : decode cX12_crosses 66 = .ok (.ifCond .ne 6, 3) := by decide +kernel
theorem dX12_crosses_69 : decode cX12_crosses 69 = .ok (.goto 39, 3) := by decide +kernel
theorem dX12_crosses_72 : decode cX12_crosses 72 = .ok (.aload_n 0, 1) := by decide +kernel
theorem dX12_crosses_73 : decode cX12_crosses 73 = .ok (.getfield 33, 3) := by decide +kernel
theorem dX12_crosses_76 : decode cX12_crosses 76 = .ok (.sipush 132, 3) := by decide +kernel
theorem dX12_crosses_79 : decode cX12_crosses 79 = .ok (.iload_n 2, 1) := by decide +kernel
theorem dX12_crosses_80 : decode cX12_crosses 80 = .ok (.iadd, 1) := by decide +kernel
theorem dX12_crosses_81 : decode cX12_crosses 81 = .ok (.dup2, 1) := by decide +kernel
theorem dX12_crosses_82 : decode cX12_crosses 82 = .ok (.iaload, 1) := by decide +kernel
theorem dX12_crosses_83 : decode cX12_crosses 83 = .ok (.iconst 1, 1) := by decide +kernel
theorem dX12_crosses_84 : decode cX12_crosses 84 = .ok (.iadd, 1) := by decide +kernel
theorem dX12_crosses_85 : decode cX12_crosses 85 = .ok (.iastore, 1) := by decide +kernel
theorem dX12_crosses_86 : decode cX12_crosses 86 = .ok (.aload_n 0, 1) := by decide +kernel
theorem dX12_crosses_87 : decode cX12_crosses 87 = .ok (.getfield 33, 3) := by decide +kernel
theorem dX12_crosses_90 : decode cX12_crosses 90 = .ok (.bipush 125, 2) := by decide +kernel
theorem dX12_crosses_92 : decode cX12_crosses 92 = .ok (.iaload, 1) := by decide +kernel
theorem dX12_crosses_93 : decode cX12_crosses 93 = .ok (.iconst 1, 1) := by decide +kernel
theorem dX12_crosses_94 : decode cX12_crosses 94 = .ok (.if_icmp .ne 14, 3) := by decide +kernel
theorem dX12_crosses_97 : decode cX12_crosses 97 = .ok (.aload_n 0, 1) := by decide +kernel
theorem dX12_crosses_98 : decode cX12_crosses 98 = .ok (.getfield 33, 3) := by decide +kernel
theorem dX12_crosses_101 : decode cX12_crosses 101 = .ok (.sipush 232, 3) := by decide +kernel
theorem dX12_crosses_104 : decode cX12_crosses 104 = .ok (.iload_n 2, 1) := by decide +kernel
theorem dX12_crosses_105 : decode cX12_crosses 105 = .ok (.iadd, 1) := by decide +kernel
theorem dX12_crosses_106 : decode cX12_crosses 106 = .ok (.iconst 0, 1) := by decide +kernel
theorem dX12_crosses_107 : decode cX12_crosses 107 = .ok (.iastore, 1) := by decide +kernel
theorem dX12_crosses_108 : decode cX12_crosses 108 = .ok (.iinc 2 1, 3) := by decide +kernel
theorem dX12_crosses_111 : decode cX12_crosses 111 = .ok (.goto (-60), 3) := by decide +kernel
theorem dX12_crosses_114 : decode cX12_crosses 114 = .ok (.return_, 1) := by decide +kernel
theorem dX12_whyRaise_0 : decode cX12_whyRaise 0 = .ok (.aload_n 0, 1) := by decide +kernel
theorem dX12_whyRaise_1 : decode cX12_whyRaise 1 = .ok (.getfield 33, 3) := by decide +kernel
theorem dX12_whyRaise_4 : decode cX12_whyRaise 4 = .ok (.bipush 126, 2) := by decide +kernel
theorem dX12_whyRaise_6 : decode cX12_whyRaise 6 = .ok (.iaload, 1) := by decide +kernel
theorem dX12_whyRaise_7 : decode cX12_whyRaise 7 = .ok (.iload_n 1, 1) := by decide +kernel
theorem dX12_whyRaise_8 : decode cX12_whyRaise 8 = .ok (.if_icmp .ne 7, 3) := by decide +kernel
theorem dX12_whyRaise_11 : decode cX12_whyRaise 11 = .ok (.iconst 1, 1) := by decide +kernel
theorem dX12_whyRaise_12 : decode cX12_whyRaise 12 = .ok (.goto 4, 3) := by decide +kernel
theorem dX12_whyRaise_15 : decode cX12_whyRaise 15 = .ok (.iconst 0, 1) := by decide +kernel
theorem dX12_whyRaise_16 : decode cX12_whyRaise 16 = .ok (.ireturn, 1) := by decide +kernel
theorem dX12_whyHire_0 : decode cX12_whyHire 0 = .ok (.aload_n 0, 1) := by decide +kernel
theorem dX12_whyHire_1 : decode cX12_whyHire 1 = .ok (.getfield 33, 3) := by decide +kernel
theorem dX12_whyHire_4 : decode cX12_whyHire 4 = .ok (.sipush 131, 3) := by decide +kernel
theorem dX12_whyHire_7 : decode cX12_whyHire 7 = .ok (.iaload, 1) := by decide +kernel
theorem dX12_whyHire_8 : decode cX12_whyHire 8 = .ok (.iload_n 1, 1) := by decide +kernel
theorem dX12_whyHire_9 : decode cX12_whyHire 9 = .ok (.ishr, 1) := by decide +kernel
theorem dX12_whyHire_10 : decode cX12_whyHire 10 = .ok (.iconst 1, 1) := by decide +kernel
theorem dX12_whyHire_11 : decode cX12_whyHire 11 = .ok (.iand, 1) := by decide +kernel
theorem dX12_whyHire_12 : decode cX12_whyHire 12 = .ok (.ireturn, 1) := by decide +kernel
theorem dX12_hires_0 : decode cX12_hires 0 = .ok (.aload_n 0, 1) := by decide +kernel
theorem dX12_hires_1 : decode cX12_hires 1 = .ok (.getfield 33, 3) := by decide +kernel
theorem dX12_hires_4 : decode cX12_hires 4 = .ok (.sipush 131, 3) := by decide +kernel
theorem dX12_hires_7 : decode cX12_hires 7 = .ok (.dup2, 1) := by decide +kernel
theorem dX12_hires_8 : decode cX12_hires 8 = .ok (.iaload, 1) := by decide +kernel
theorem dX12_hires_9 : decode cX12_hires 9 = .ok (.iconst 1, 1) := by decide +kernel
theorem dX12_hires_10 : decode cX12_hires 10 = .ok (.iload_n 1, 1) := by decide +kernel
theorem dX12_hires_11 : decode cX12_hires 11 = .ok (.ishl, 1) := by decide +kernel
theorem dX12_hires_12 : decode cX12_hires 12 = .ok (.ior, 1) := by decide +kernel
theorem dX12_hires_13 : decode cX12_hires 13 = .ok (.iastore, 1) := by decide +kernel
theorem dX12_hires_14 : decode cX12_hires 14 = .ok (.aload_n 0, 1) := by decide +kernel
theorem dX12_hires_15 : decode cX12_hires 15 = .ok (.getfield 33, 3) := by decide +kernel
theorem dX12_hires_18 : decode cX12_hires 18 = .ok (.bipush 127, 2) := by decide +kernel
theorem dX12_hires_20 : decode cX12_hires 20 = .ok (.dup2, 1) := by decide +kernel
theorem dX12_hires_21 : decode cX12_hires 21 = .ok (.iaload, 1) := by decide +kernel
theorem dX12_hires_22 : decode cX12_hires 22 = .ok (.aload_n 0, 1) := by decide +kernel
theorem dX12_hires_23 : decode cX12_hires 23 = .ok (.getfield 33, 3) := by decide +kernel
theorem dX12_hires_26 : decode cX12_hires 26 = .ok (.iconst 5, 1) := by decide +kernel
theorem dX12_hires_27 : decode cX12_hires 27 = .ok (.iload_n 1, 1) := by decide +kernel
theorem dX12_hires_28 : decode cX12_hires 28 = .ok (.iadd, 1) := by decide +kernel
theorem dX12_hires_29 : decode cX12_hires 29 = .ok (.iaload, 1) := by decide +kernel
theorem dX12_hires_30 : decode cX12_hires 30 = .ok (.iadd, 1) := by decide +kernel
theorem dX12_hires_31 : decode cX12_hires 31 = .ok (.iastore, 1) := by decide +kernel
theorem dX12_hires_32 : decode cX12_hires 32 = .ok (.return_, 1) := by decide +kernel
theorem dX12_whyLie_0 : decode cX12_whyLie 0 = .ok (.aload_n 0, 1) := by decide +kernel
theorem dX12_whyLie_1 : decode cX12_whyLie 1 = .ok (.iload_n 1, 1) := by decide +kernel
theorem dX12_whyLie_2 : decode cX12_whyLie 2 = .ok (.invokevirtual 259, 3) := by decide +kernel
theorem dX12_whyLie_5 : decode cX12_whyLie 5 = .ok (.iconst 1, 1) := by decide +kernel
theorem dX12_whyLie_6 : decode cX12_whyLie 6 = .ok (.if_icmp .ne 7, 3) := by decide +kernel
theorem dX12_whyLie_9 : decode cX12_whyLie 9 = .ok (.iconst 1, 1) := by decide +kernel
theorem dX12_whyLie_10 : decode cX12_whyLie 10 = .ok (.goto 18, 3) := by decide +kernel
theorem dX12_whyLie_13 : decode cX12_whyLie 13 = .ok (.aload_n 0, 1) := by decide +kernel
theorem dX12_whyLie_14 : decode cX12_whyLie 14 = .ok (.iload_n 1, 1) := by decide +kernel
theorem dX12_whyLie_15 : decode cX12_whyLie 15 = .ok (.iload_n 2, 1) := by decide +kernel
theorem dX12_whyLie_16 : decode cX12_whyLie 16 = .ok (.invokevirtual 269, 3) := by decide +kernel
theorem dX12_whyLie_19 : decode cX12_whyLie 19 = .ok (.iload_n 3, 1) := by decide +kernel
theorem dX12_whyLie_20 : decode cX12_whyLie 20 = .ok (.if_icmp .ne 7, 3) := by decide +kernel
theorem dX12_whyLie_23 : decode cX12_whyLie 23 = .ok (.iconst 2, 1) := by decide +kernel
theorem dX12_whyLie_24 : decode cX12_whyLie 24 = .ok (.goto 4, 3) := by decide +kernel
theorem dX12_whyLie_27 : decode cX12_whyLie 27 = .ok (.iconst 0, 1) := by decide +kernel
theorem dX12_whyLie_28 : decode cX12_whyLie 28 = .ok (.ireturn, 1) := by decide +kernel
theorem dX12_tells_0 : decode cX12_tells 0 = .ok (.aload_n 0, 1) := by decide +kernel
theorem dX12_tells_1 : decode cX12_tells 1 = .ok (.getfield 33, 3) := by decide +kernel
theorem dX12_tells_4 : decode cX12_tells 4 = .ok (.sipush 232, 3) := by decide +kernel
theorem dX12_tells_7 : decode cX12_tells 7 = .ok (.iload_n 1, 1) := by decide +kernel
theorem dX12_tells_8 : decode cX12_tells 8 = .ok (.iadd, 1) := by decide +kernel
theorem dX12_tells_9 : decode cX12_tells 9 = .ok (.dup2, 1) := by decide +kernel
theorem dX12_tells_10 : decode cX12_tells 10 = .ok (.iaload, 1) := by decide +kernel
theorem dX12_tells_11 : decode cX12_tells 11 = .ok (.iconst 1, 1) := by decide +kernel
theorem dX12_tells_12 : decode cX12_tells 12 = .ok (.iload_n 2, 1) := by decide +kernel
theorem dX12_tells_13 : decode cX12_tells 13 = .ok (.ishl, 1) := by decide +kernel
theorem dX12_tells_14 : decode cX12_tells 14 = .ok (.ior, 1) := by decide +kernel
theorem dX12_tells_15 : decode cX12_tells 15 = .ok (.iastore, 1) := by decide +kernel
theorem dX12_tells_16 : decode cX12_tells 16 = .ok (.aload_n 0, 1) := by decide +kernel
theorem dX12_tells_17 : decode cX12_tells 17 = .ok (.getfield 33, 3) := by decide +kernel
theorem dX12_tells_20 : decode cX12_tells 20 = .ok (.sipush 242, 3) := by decide +kernel
theorem dX12_tells_23 : decode cX12_tells 23 = .ok (.bipush 9, 2) := by decide +kernel
theorem dX12_tells_25 : decode cX12_tells 25 = .ok (.iload_n 1, 1) := by decide +kernel
theorem dX12_tells_26 : decode cX12_tells 26 = .ok (.imul, 1) := by decide +kernel
theorem dX12_tells_27 : decode cX12_tells 27 = .ok (.iadd, 1) := by decide +kernel
theorem dX12_tells_28 : decode cX12_tells 28 = .ok (.iload_n 2, 1) := by decide +kernel
theorem dX12_tells_29 : decode cX12_tells 29 = .ok (.iadd, 1) := by decide +kernel
theorem dX12_tells_30 : decode cX12_tells 30 = .ok (.iload_n 3, 1) := by decide +kernel
theorem dX12_tells_31 : decode cX12_tells 31 = .ok (.iastore, 1) := by decide +kernel
theorem dX12_tells_32 : decode cX12_tells 32 = .ok (.return_, 1) := by decide +kernel
theorem dX12_whyTurn_0 : decode cX12_whyTurn 0 = .ok (.aload_n 0, 1) := by decide +kernel
theorem dX12_whyTurn_1 : decode cX12_whyTurn 1 = .ok (.getfield 33, 3) := by decide +kernel
theorem dX12_whyTurn_4 : decode cX12_whyTurn 4 = .ok (.sipush 142, 3) := by decide +kernel
theorem dX12_whyTurn_7 : decode cX12_whyTurn 7 = .ok (.bipush 9, 2) := by decide +kernel
theorem dX12_whyTurn_9 : decode cX12_whyTurn 9 = .ok (.iload_n 1, 1) := by decide +kernel
theorem dX12_whyTurn_10 : decode cX12_whyTurn 10 = .ok (.imul, 1) := by decide +kernel
theorem dX12_whyTurn_11 : decode cX12_whyTurn 11 = .ok (.iadd, 1) := by decide +kernel
theorem dX12_whyTurn_12 : decode cX12_whyTurn 12 = .ok (.iload_n 2, 1) := by decide +kernel
theorem dX12_whyTurn_13 : decode cX12_whyTurn 13 = .ok (.iadd, 1) := by decide +kernel
theorem dX12_whyTurn_14 : decode cX12_whyTurn 14 = .ok (.iaload, 1) := by decide +kernel
theorem dX12_whyTurn_15 : decode cX12_whyTurn 15 = .ok (.iload_n 3, 1) := by decide +kernel
theorem dX12_whyTurn_16 : decode cX12_whyTurn 16 = .ok (.if_icmp .ne 7, 3) := by decide +kernel
theorem dX12_whyTurn_19 : decode cX12_whyTurn 19 = .ok (.iconst 1, 1) := by decide +kernel
theorem dX12_whyTurn_20 : decode cX12_whyTurn 20 = .ok (.goto 4, 3) := by decide +kernel
theorem dX12_whyTurn_23 : decode cX12_whyTurn 23 = .ok (.iconst 0, 1) := by decide +kernel
theorem dX12_whyTurn_24 : decode cX12_whyTurn 24 = .ok (.ireturn, 1) := by decide +kernel
theorem dX12_turns_0 : decode cX12_turns 0 = .ok (.aload_n 0, 1) := by decide +kernel
theorem dX12_turns_1 : decode cX12_turns 1 = .ok (.getfield 33, 3) := by decide +kernel
theorem dX12_turns_4 : decode cX12_turns 4 = .ok (.sipush 142, 3) := by decide +kernel
theorem dX12_turns_7 : decode cX12_turns 7 = .ok (.bipush 9, 2) := by decide +kernel
theorem dX12_turns_9 : decode cX12_turns 9 = .ok (.iload_n 1, 1) := by decide +kernel
theorem dX12_turns_10 : decode cX12_turns 10 = .ok (.imul, 1) := by decide +kernel
theorem dX12_turns_11 : decode cX12_turns 11 = .ok (.iadd, 1) := by decide +kernel
theorem dX12_turns_12 : decode cX12_turns 12 = .ok (.iload_n 2, 1) := by decide +kernel
theorem dX12_turns_13 : decode cX12_turns 13 = .ok (.iadd, 1) := by decide +kernel
theorem dX12_turns_14 : decode cX12_turns 14 = .ok (.iload_n 3, 1) := by decide +kernel
theorem dX12_turns_15 : decode cX12_turns 15 = .ok (.iastore, 1) := by decide +kernel
theorem dX12_turns_16 : decode cX12_turns 16 = .ok (.aload_n 0, 1) := by decide +kernel
theorem dX12_turns_17 : decode cX12_turns 17 = .ok (.getfield 33, 3) := by decide +kernel
theorem dX12_turns_20 : decode cX12_turns 20 = .ok (.sipush 132, 3) := by decide +kernel
theorem dX12_turns_23 : decode cX12_turns 23 = .ok (.iload_n 1, 1) := by decide +kernel
theorem dX12_turns_24 : decode cX12_turns 24 = .ok (.iadd, 1) := by decide +kernel
theorem dX12_turns_25 : decode cX12_turns 25 = .ok (.iaload, 1) := by decide +kernel
theorem dX12_turns_26 : decode cX12_turns 26 = .ok (.ifCond .ne 4, 3) := by decide +kernel
theorem dX12_turns_29 : decode cX12_turns 29 = .ok (.return_, 1) := by decide +kernel
theorem dX12_turns_30 : decode cX12_turns 30 = .ok (.iconst 0, 1) := by decide +kernel
theorem dX12_turns_31 : decode cX12_turns 31 = .ok (.istore 4, 2) := by decide +kernel
theorem dX12_turns_33 : decode cX12_turns 33 = .ok (.iload 4, 2) := by decide +kernel
theorem dX12_turns_35 : decode cX12_turns 35 = .ok (.aload_n 0, 1) := by decide +kernel
theorem dX12_turns_36 : decode cX12_turns 36 = .ok (.getfield 33, 3) := by decide +kernel
theorem dX12_turns_39 : decode cX12_turns 39 = .ok (.iconst 1, 1) := by decide +kernel
theorem dX12_turns_40 : decode cX12_turns 40 = .ok (.iaload, 1) := by decide +kernel
theorem dX12_turns_41 : decode cX12_turns 41 = .ok (.if_icmp .ge 38, 3) := by decide +kernel
theorem dX12_turns_44 : decode cX12_turns 44 = .ok (.aload_n 0, 1) := by decide +kernel
theorem dX12_turns_45 : decode cX12_turns 45 = .ok (.iload 4, 2) := by decide +kernel
theorem dX12_turns_47 : decode cX12_turns 47 = .ok (.invokevirtual 259, 3) := by decide +kernel
theorem dX12_turns_50 : decode cX12_turns 50 = .ok (.aload_n 0, 1) := by decide +kernel
theorem dX12_turns_51 : decode cX12_turns 51 = .ok (.iload_n 1, 1) := by decide +kernel
theorem dX12_turns_52 : decode cX12_turns 52 = .ok (.invokevirtual 259, 3) := by decide +kernel
theorem dX12_turns_55 : decode cX12_turns 55 = .ok (.if_icmp .ne 18, 3) := by decide +kernel
theorem dX12_turns_58 : decode cX12_turns 58 = .ok (.aload_n 0, 1) := by decide +kernel
theorem dX12_turns_59 : decode cX12_turns 59 = .ok (.getfield 33, 3) := by decide +kernel
theorem dX12_turns_62 : decode cX12_turns 62 = .ok (.sipush 130, 3) := by decide +kernel
theorem dX12_turns_65 : decode cX12_turns 65 = .ok (.dup2, 1) := by decide +kernel
theorem dX12_turns_66 : decode cX12_turns 66 = .ok (.iaload, 1) := by decide +kernel
theorem dX12_turns_67 : decode cX12_turns 67 = .ok (.iconst 1, 1) := by decide +kernel
theorem dX12_turns_68 : decode cX12_turns 68 = .ok (.iload 4, 2) := by decide +kernel
theorem dX12_turns_70 : decode cX12_turns 70 = .ok (.ishl, 1) := by decide +kernel
theorem dX12_turns_71 : decode cX12_turns 71 = .ok (.ior, 1) := by decide +kernel
theorem dX12_turns_72 : decode cX12_turns 72 = .ok (.iastore, 1) := by decide +kernel
theorem dX12_turns_73 : decode cX12_turns 73 = .ok (.iinc 4 1, 3) := by decide +kernel
theorem dX12_turns_76 : decode cX12_turns 76 = .ok (.goto (-43), 3) := by decide +kernel
theorem dX12_turns_79 : decode cX12_turns 79 = .ok (.return_, 1) := by decide +kernel
theorem dX12_why_0 : decode cX12_why 0 = .ok (.aload_n 0, 1) := by decide +kernel
theorem dX12_why_1 : decode cX12_why 1 = .ok (.iconst 0, 1) := by decide +kernel
theorem dX12_why_2 : decode cX12_why 2 = .ok (.putfield 1, 3) := by decide +kernel
theorem dX12_why_5 : decode cX12_why 5 = .ok (.aload_n 0, 1) := by decide +kernel
theorem dX12_why_6 : decode cX12_why 6 = .ok (.iload_n 1, 1) := by decide +kernel
theorem dX12_why_7 : decode cX12_why 7 = .ok (.invokevirtual 296, 3) := by decide +kernel
theorem dX12_why_10 : decode cX12_why 10 = .ok (.ifCond .eq 11, 3) := by decide +kernel
theorem dX12_why_13 : decode cX12_why 13 = .ok (.aload_n 0, 1) := by decide +kernel
theorem dX12_why_14 : decode cX12_why 14 = .ok (.iload_n 1, 1) := by decide +kernel
theorem dX12_why_15 : decode cX12_why 15 = .ok (.invokevirtual 299, 3) := by decide +kernel
theorem dX12_why_18 : decode cX12_why 18 = .ok (.goto 4, 3) := by decide +kernel
theorem dX12_why_21 : decode cX12_why 21 = .ok (.iconst (-1), 1) := by decide +kernel
theorem dX12_why_22 : decode cX12_why 22 = .ok (.ireturn, 1) := by decide +kernel
theorem dX12_cross_0 : decode cX12_cross 0 = .ok (.aload_n 0, 1) := by decide +kernel
theorem dX12_cross_1 : decode cX12_cross 1 = .ok (.iconst 0, 1) := by decide +kernel
theorem dX12_cross_2 : decode cX12_cross 2 = .ok (.putfield 1, 3) := by decide +kernel
theorem dX12_cross_5 : decode cX12_cross 5 = .ok (.aload_n 0, 1) := by decide +kernel
theorem dX12_cross_6 : decode cX12_cross 6 = .ok (.iload_n 1, 1) := by decide +kernel
theorem dX12_cross_7 : decode cX12_cross 7 = .ok (.invokevirtual 296, 3) := by decide +kernel
theorem dX12_cross_10 : decode cX12_cross 10 = .ok (.ifCond .ne 5, 3) := by decide +kernel
theorem dX12_cross_13 : decode cX12_cross 13 = .ok (.iconst (-1), 1) := by decide +kernel
theorem dX12_cross_14 : decode cX12_cross 14 = .ok (.ireturn, 1) := by decide +kernel
theorem dX12_cross_15 : decode cX12_cross 15 = .ok (.aload_n 0, 1) := by decide +kernel
theorem dX12_cross_16 : decode cX12_cross 16 = .ok (.iload_n 1, 1) := by decide +kernel
theorem dX12_cross_17 : decode cX12_cross 17 = .ok (.invokevirtual 299, 3) := by decide +kernel
theorem dX12_cross_20 : decode cX12_cross 20 = .ok (.istore_n 2, 1) := by decide +kernel
theorem dX12_cross_21 : decode cX12_cross 21 = .ok (.iload_n 2, 1) := by decide +kernel
theorem dX12_cross_22 : decode cX12_cross 22 = .ok (.ifCond .le 5, 3) := by decide +kernel
theorem dX12_cross_25 : decode cX12_cross 25 = .ok (.iload_n 2, 1) := by decide +kernel
theorem dX12_cross_26 : decode cX12_cross 26 = .ok (.ireturn, 1) := by decide +kernel
theorem dX12_cross_27 : decode cX12_cross 27 = .ok (.aload_n 0, 1) := by decide +kernel
theorem dX12_cross_28 : decode cX12_cross 28 = .ok (.invokevirtual 302, 3) := by decide +kernel
theorem dX12_cross_31 : decode cX12_cross 31 = .ok (.aload_n 0, 1) := by decide +kernel
theorem dX12_cross_32 : decode cX12_cross 32 = .ok (.iload_n 1, 1) := by decide +kernel
theorem dX12_cross_33 : decode cX12_cross 33 = .ok (.invokevirtual 305, 3) := by decide +kernel
theorem dX12_cross_36 : decode cX12_cross 36 = .ok (.iconst 0, 1) := by decide +kernel
theorem dX12_cross_37 : decode cX12_cross 37 = .ok (.ireturn, 1) := by decide +kernel
theorem dX12_raise_0 : decode cX12_raise 0 = .ok (.aload_n 0, 1) := by decide +kernel
theorem dX12_raise_1 : decode cX12_raise 1 = .ok (.iconst 0, 1) := by decide +kernel
theorem dX12_raise_2 : decode cX12_raise 2 = .ok (.putfield 1, 3) := by decide +kernel
theorem dX12_raise_5 : decode cX12_raise 5 = .ok (.aload_n 0, 1) := by decide +kernel
theorem dX12_raise_6 : decode cX12_raise 6 = .ok (.iload_n 1, 1) := by decide +kernel
theorem dX12_raise_7 : decode cX12_raise 7 = .ok (.invokevirtual 266, 3) := by decide +kernel
theorem dX12_raise_10 : decode cX12_raise 10 = .ok (.ifCond .ne 5, 3) := by decide +kernel
theorem dX12_raise_13 : decode cX12_raise 13 = .ok (.iconst (-1), 1) := by decide +kernel
theorem dX12_raise_14 : decode cX12_raise 14 = .ok (.ireturn, 1) := by decide +kernel
theorem dX12_raise_15 : decode cX12_raise 15 = .ok (.aload_n 0, 1) := by decide +kernel
theorem dX12_raise_16 : decode cX12_raise 16 = .ok (.iload_n 1, 1) := by decide +kernel
theorem dX12_raise_17 : decode cX12_raise 17 = .ok (.invokevirtual 308, 3) := by decide +kernel
theorem dX12_raise_20 : decode cX12_raise 20 = .ok (.ifCond .le 5, 3) := by decide +kernel
theorem dX12_raise_23 : decode cX12_raise 23 = .ok (.iconst 1, 1) := by decide +kernel
theorem dX12_raise_24 : decode cX12_raise 24 = .ok (.ireturn, 1) := by decide +kernel
theorem dX12_raise_25 : decode cX12_raise 25 = .ok (.aload_n 0, 1) := by decide +kernel
theorem dX12_raise_26 : decode cX12_raise 26 = .ok (.invokevirtual 302, 3) := by decide +kernel
theorem dX12_raise_29 : decode cX12_raise 29 = .ok (.aload_n 0, 1) := by decide +kernel
theorem dX12_raise_30 : decode cX12_raise 30 = .ok (.getfield 33, 3) := by decide +kernel
theorem dX12_raise_33 : decode cX12_raise 33 = .ok (.bipush 126, 2) := by decide +kernel
theorem dX12_raise_35 : decode cX12_raise 35 = .ok (.iload_n 1, 1) := by decide +kernel
theorem dX12_raise_36 : decode cX12_raise 36 = .ok (.iastore, 1) := by decide +kernel
theorem dX12_raise_37 : decode cX12_raise 37 = .ok (.iconst 0, 1) := by decide +kernel
theorem dX12_raise_38 : decode cX12_raise 38 = .ok (.ireturn, 1) := by decide +kernel
theorem dX12_hire_0 : decode cX12_hire 0 = .ok (.aload_n 0, 1) := by decide +kernel
theorem dX12_hire_1 : decode cX12_hire 1 = .ok (.iconst 0, 1) := by decide +kernel
theorem dX12_hire_2 : decode cX12_hire 2 = .ok (.putfield 1, 3) := by decide +kernel
theorem dX12_hire_5 : decode cX12_hire 5 = .ok (.aload_n 0, 1) := by decide +kernel
theorem dX12_hire_6 : decode cX12_hire 6 = .ok (.iload_n 1, 1) := by decide +kernel
theorem dX12_hire_7 : decode cX12_hire 7 = .ok (.invokevirtual 252, 3) := by decide +kernel
theorem dX12_hire_10 : decode cX12_hire 10 = .ok (.ifCond .ne 5, 3) := by decide +kernel
theorem dX12_hire_13 : decode cX12_hire 13 = .ok (.iconst (-1), 1) := by decide +kernel
theorem dX12_hire_14 : decode cX12_hire 14 = .ok (.ireturn, 1) := by decide +kernel
theorem dX12_hire_15 : decode cX12_hire 15 = .ok (.aload_n 0, 1) := by decide +kernel
theorem dX12_hire_16 : decode cX12_hire 16 = .ok (.iload_n 1, 1) := by decide +kernel
theorem dX12_hire_17 : decode cX12_hire 17 = .ok (.invokevirtual 311, 3) := by decide +kernel
theorem dX12_hire_20 : decode cX12_hire 20 = .ok (.ifCond .le 5, 3) := by decide +kernel
theorem dX12_hire_23 : decode cX12_hire 23 = .ok (.iconst 1, 1) := by decide +kernel
theorem dX12_hire_24 : decode cX12_hire 24 = .ok (.ireturn, 1) := by decide +kernel
theorem dX12_hire_25 : decode cX12_hire 25 = .ok (.aload_n 0, 1) := by decide +kernel
theorem dX12_hire_26 : decode cX12_hire 26 = .ok (.invokevirtual 302, 3) := by decide +kernel
theorem dX12_hire_29 : decode cX12_hire 29 = .ok (.aload_n 0, 1) := by decide +kernel
theorem dX12_hire_30 : decode cX12_hire 30 = .ok (.iload_n 1, 1) := by decide +kernel
theorem dX12_hire_31 : decode cX12_hire 31 = .ok (.invokevirtual 314, 3) := by decide +kernel
theorem dX12_hire_34 : decode cX12_hire 34 = .ok (.iconst 0, 1) := by decide +kernel
theorem dX12_hire_35 : decode cX12_hire 35 = .ok (.ireturn, 1) := by decide +kernel
theorem dX12_lie_0 : decode cX12_lie 0 = .ok (.aload_n 0, 1) := by decide +kernel
theorem dX12_lie_1 : decode cX12_lie 1 = .ok (.iconst 0, 1) := by decide +kernel
theorem dX12_lie_2 : decode cX12_lie 2 = .ok (.putfield 1, 3) := by decide +kernel
theorem dX12_lie_5 : decode cX12_lie 5 = .ok (.aload_n 0, 1) := by decide +kernel
theorem dX12_lie_6 : decode cX12_lie 6 = .ok (.iload_n 1, 1) := by decide +kernel
theorem dX12_lie_7 : decode cX12_lie 7 = .ok (.invokevirtual 252, 3) := by decide +kernel
theorem dX12_lie_10 : decode cX12_lie 10 = .ok (.ifCond .eq 22, 3) := by decide +kernel
theorem dX12_lie_13 : decode cX12_lie 13 = .ok (.aload_n 0, 1) := by decide +kernel
theorem dX12_lie_14 : decode cX12_lie 14 = .ok (.iload_n 2, 1) := by decide +kernel
theorem dX12_lie_15 : decode cX12_lie 15 = .ok (.invokevirtual 266, 3) := by decide +kernel
theorem dX12_lie_18 : decode cX12_lie 18 = .ok (.ifCond .eq 14, 3) := by decide +kernel
theorem dX12_lie_21 : decode cX12_lie 21 = .ok (.iload_n 3, 1) := by decide +kernel
theorem dX12_lie_22 : decode cX12_lie 22 = .ok (.bipush (-9), 2) := by decide +kernel
theorem dX12_lie_24 : decode cX12_lie 24 = .ok (.bipush 9, 2) := by decide +kernel
theorem dX12_lie_26 : decode cX12_lie 26 = .ok (.invokestatic 189, 3) := by decide +kernel
theorem dX12_lie_29 : decode cX12_lie 29 = .ok (.ifCond .ne 5, 3) := by decide +kernel
theorem dX12_lie_32 : decode cX12_lie 32 = .ok (.iconst (-1), 1) := by decide +kernel
theorem dX12_lie_33 : decode cX12_lie 33 = .ok (.ireturn, 1) := by decide +kernel
theorem dX12_lie_34 : decode cX12_lie 34 = .ok (.aload_n 0, 1) := by decide +kernel
theorem dX12_lie_35 : decode cX12_lie 35 = .ok (.iload_n 1, 1) := by decide +kernel
theorem dX12_lie_36 : decode cX12_lie 36 = .ok (.iload_n 2, 1) := by decide +kernel
theorem dX12_lie_37 : decode cX12_lie 37 = .ok (.iload_n 3, 1) := by decide +kernel
theorem dX12_lie_38 : decode cX12_lie 38 = .ok (.invokevirtual 317, 3) := by decide +kernel
theorem dX12_lie_41 : decode cX12_lie 41 = .ok (.istore 4, 2) := by decide +kernel
theorem dX12_lie_43 : decode cX12_lie 43 = .ok (.iload 4, 2) := by decide +kernel
theorem dX12_lie_45 : decode cX12_lie 45 = .ok (.ifCond .le 6, 3) := by decide +kernel
theorem dX12_lie_48 : decode cX12_lie 48 = .ok (.iload 4, 2) := by decide +kernel
theorem dX12_lie_50 : decode cX12_lie 50 = .ok (.ireturn, 1) := by decide +kernel
theorem dX12_lie_51 : decode cX12_lie 51 = .ok (.aload_n 0, 1) := by decide +kernel
theorem dX12_lie_52 : decode cX12_lie 52 = .ok (.invokevirtual 302, 3) := by decide +kernel
theorem dX12_lie_55 : decode cX12_lie 55 = .ok (.aload_n 0, 1) := by decide +kernel
theorem dX12_lie_56 : decode cX12_lie 56 = .ok (.iload_n 1, 1) := by decide +kernel
theorem dX12_lie_57 : decode cX12_lie 57 = .ok (.iload_n 2, 1) := by decide +kernel
theorem dX12_lie_58 : decode cX12_lie 58 = .ok (.iload_n 3, 1) := by decide +kernel
theorem dX12_lie_59 : decode cX12_lie 59 = .ok (.invokevirtual 321, 3) := by decide +kernel
theorem dX12_lie_62 : decode cX12_lie 62 = .ok (.iconst 0, 1) := by decide +kernel
theorem dX12_lie_63 : decode cX12_lie 63 = .ok (.ireturn, 1) := by decide +kernel
theorem dX12_turn_0 : decode cX12_turn 0 = .ok (.aload_n 0, 1) := by decide +kernel
theorem dX12_turn_1 : decode cX12_turn 1 = .ok (.iconst 0, 1) := by decide +kernel
theorem dX12_turn_2 : decode cX12_turn 2 = .ok (.putfield 1, 3) := by decide +kernel
theorem dX12_turn_5 : decode cX12_turn 5 = .ok (.aload_n 0, 1) := by decide +kernel
theorem dX12_turn_6 : decode cX12_turn 6 = .ok (.iload_n 1, 1) := by decide +kernel
theorem dX12_turn_7 : decode cX12_turn 7 = .ok (.invokevirtual 252, 3) := by decide +kernel
theorem dX12_turn_10 : decode cX12_turn 10 = .ok (.ifCond .eq 22, 3) := by decide +kernel
theorem dX12_turn_13 : decode cX12_turn 13 = .ok (.aload_n 0, 1) := by decide +kernel
theorem dX12_turn_14 : decode cX12_turn 14 = .ok (.iload_n 2, 1) := by decide +kernel
theorem dX12_turn_15 : decode cX12_turn 15 = .ok (.invokevirtual 266, 3) := by decide +kernel
theorem dX12_turn_18 : decode cX12_turn 18 = .ok (.ifCond .eq 14, 3) := by decide +kernel
theorem dX12_turn_21 : decode cX12_turn 21 = .ok (.iload_n 3, 1) := by decide +kernel
theorem dX12_turn_22 : decode cX12_turn 22 = .ok (.bipush (-9), 2) := by decide +kernel
theorem dX12_turn_24 : decode cX12_turn 24 = .ok (.bipush 9, 2) := by decide +kernel
theorem dX12_turn_26 : decode cX12_turn 26 = .ok (.invokestatic 189, 3) := by decide +kernel
theorem dX12_turn_29 : decode cX12_turn 29 = .ok (.ifCond .ne 5, 3) := by decide +kernel
theorem dX12_turn_32 : decode cX12_turn 32 = .ok (.iconst (-1), 1) := by decide +kernel
theorem dX12_turn_33 : decode cX12_turn 33 = .ok (.ireturn, 1) := by decide +kernel
theorem dX12_turn_34 : decode cX12_turn 34 = .ok (.aload_n 0, 1) := by decide +kernel
theorem dX12_turn_35 : decode cX12_turn 35 = .ok (.iload_n 1, 1) := by decide +kernel
theorem dX12_turn_36 : decode cX12_turn 36 = .ok (.iload_n 2, 1) := by decide +kernel
theorem dX12_turn_37 : decode cX12_turn 37 = .ok (.iload_n 3, 1) := by decide +kernel
theorem dX12_turn_38 : decode cX12_turn 38 = .ok (.invokevirtual 325, 3) := by decide +kernel
theorem dX12_turn_41 : decode cX12_turn 41 = .ok (.ifCond .le 5, 3) := by decide +kernel
theorem dX12_turn_44 : decode cX12_turn 44 = .ok (.iconst 1, 1) := by decide +kernel
theorem dX12_turn_45 : decode cX12_turn 45 = .ok (.ireturn, 1) := by decide +kernel
theorem dX12_turn_46 : decode cX12_turn 46 = .ok (.aload_n 0, 1) := by decide +kernel
theorem dX12_turn_47 : decode cX12_turn 47 = .ok (.invokevirtual 302, 3) := by decide +kernel
theorem dX12_turn_50 : decode cX12_turn 50 = .ok (.aload_n 0, 1) := by decide +kernel
theorem dX12_turn_51 : decode cX12_turn 51 = .ok (.iload_n 1, 1) := by decide +kernel
theorem dX12_turn_52 : decode cX12_turn 52 = .ok (.iload_n 2, 1) := by decide +kernel
theorem dX12_turn_53 : decode cX12_turn 53 = .ok (.iload_n 3, 1) := by decide +kernel
theorem dX12_turn_54 : decode cX12_turn 54 = .ok (.invokevirtual 328, 3) := by decide +kernel
theorem dX12_turn_57 : decode cX12_turn 57 = .ok (.iconst 0, 1) := by decide +kernel
theorem dX12_turn_58 : decode cX12_turn 58 = .ok (.ireturn, 1) := by decide +kernel
