theorem dX0_init_0 : decode cX0_init 0 = .ok (.aload_n 0, 1) := by decide +kernel
theorem dX0_init_1 : decode cX0_init 1 = .ok (.aload_n 1, 1) := by decide +kernel
theorem dX0_init_2 : decode cX0_init 2 = .ok (.invokespecial 3, 3) := by decide +kernel
theorem dX0_init_5 : decode cX0_init 5 = .ok (.aload_n 0, 1) := by decide +kernel
theorem dX0_init_6 : decode cX0_init 6 = .ok (.new 9, 3) := by decide +kernel
theorem dX0_init_9 : decode cX0_init 9 = .ok (.dup, 1) := by decide +kernel
theorem dX0_init_10 : decode cX0_init 10 = .ok (.invokespecial 11, 3) := by decide +kernel
theorem dX0_init_13 : decode cX0_init 13 = .ok (.putfield 14, 3) := by decide +kernel
theorem dX0_init_16 : decode cX0_init 16 = .ok (.return_, 1) := by decide +kernel
theorem dX0_read_0 : decode cX0_read 0 = .ok (.aload_n 0, 1) := by decide +kernel
theorem dX0_read_1 : decode cX0_read 1 = .ok (.getfield 14, 3) := by decide +kernel
theorem dX0_read_4 : decode cX0_read 4 = .ok (.invokevirtual 20, 3) := by decide +kernel
theorem dX0_read_7 : decode cX0_read 7 = .ok (.aload_n 0, 1) := by decide +kernel
theorem dX0_read_8 : decode cX0_read 8 = .ok (.iconst 0, 1) := by decide +kernel
theorem dX0_read_9 : decode cX0_read 9 = .ok (.putfield 23, 3) := by decide +kernel
theorem dX0_read_12 : decode cX0_read 12 = .ok (.aload_n 0, 1) := by decide +kernel
theorem dX0_read_13 : decode cX0_read 13 = .ok (.iconst 0, 1) := by decide +kernel
theorem dX0_read_14 : decode cX0_read 14 = .ok (.putfield 27, 3) := by decide +kernel
theorem dX0_read_17 : decode cX0_read 17 = .ok (.aload_n 0, 1) := by decide +kernel
theorem dX0_read_18 : decode cX0_read 18 = .ok (.iconst 0, 1) := by decide +kernel
theorem dX0_read_19 : decode cX0_read 19 = .ok (.putfield 31, 3) := by decide +kernel
theorem dX0_read_22 : decode cX0_read 22 = .ok (.aload_n 0, 1) := by decide +kernel
theorem dX0_read_23 : decode cX0_read 23 = .ok (.sipush 900, 3) := by decide +kernel
theorem dX0_read_26 : decode cX0_read 26 = .ok (.invokevirtual 34, 3) := by decide +kernel
theorem dX0_read_29 : decode cX0_read 29 = .ok (.aload_n 0, 1) := by decide +kernel
theorem dX0_read_30 : decode cX0_read 30 = .ok (.getfield 23, 3) := by decide +kernel
theorem dX0_read_33 : decode cX0_read 33 = .ok (.sipush 940, 3) := by decide +kernel
theorem dX0_read_36 : decode cX0_read 36 = .ok (.if_icmp .ge 44, 3) := by decide +kernel
theorem dX0_read_39 : decode cX0_read 39 = .ok (.aload_n 0, 1) := by decide +kernel
theorem dX0_read_40 : decode cX0_read 40 = .ok (.getfield 38, 3) := by decide +kernel
theorem dX0_read_43 : decode cX0_read 43 = .ok (.getfield 42, 3) := by decide +kernel
theorem dX0_read_46 : decode cX0_read 46 = .ok (.ifCond .eq 34, 3) := by decide +kernel
theorem dX0_read_49 : decode cX0_read 49 = .ok (.aload_n 0, 1) := by decide +kernel
theorem dX0_read_50 : decode cX0_read 50 = .ok (.invokevirtual 47, 3) := by decide +kernel
theorem dX0_read_53 : decode cX0_read 53 = .ok (.ifCond .eq 12, 3) := by decide +kernel
theorem dX0_read_56 : decode cX0_read 56 = .ok (.aload_n 0, 1) := by decide +kernel
theorem dX0_read_57 : decode cX0_read 57 = .ok (.bipush 59, 2) := by decide +kernel
theorem dX0_read_59 : decode cX0_read 59 = .ok (.invokevirtual 51, 3) := by decide +kernel
theorem dX0_read_62 : decode cX0_read 62 = .ok (.ifCond .ne 5, 3) := by decide +kernel
theorem dX0_read_65 : decode cX0_read 65 = .ok (.iconst 0, 1) := by decide +kernel
theorem dX0_read_66 : decode cX0_read 66 = .ok (.ireturn, 1) := by decide +kernel
theorem dX0_read_67 : decode cX0_read 67 = .ok (.aload_n 0, 1) := by decide +kernel
theorem dX0_read_68 : decode cX0_read 68 = .ok (.dup, 1) := by decide +kernel
theorem dX0_read_69 : decode cX0_read 69 = .ok (.getfield 23, 3) := by decide +kernel
theorem dX0_read_72 : decode cX0_read 72 = .ok (.iconst 1, 1) := by decide +kernel
theorem dX0_read_73 : decode cX0_read 73 = .ok (.iadd, 1) := by decide +kernel
theorem dX0_read_74 : decode cX0_read 74 = .ok (.putfield 23, 3) := by decide +kernel
theorem dX0_read_77 : decode cX0_read 77 = .ok (.goto (-48), 3) := by decide +kernel
theorem dX0_read_80 : decode cX0_read 80 = .ok (.iconst 1, 1) := by decide +kernel
theorem dX0_read_81 : decode cX0_read 81 = .ok (.ireturn, 1) := by decide +kernel
theorem dX0_readLine_0 : decode cX0_readLine 0 = .ok (.aload_n 0, 1) := by decide +kernel
theorem dX0_readLine_1 : decode cX0_readLine 1 = .ok (.getfield 38, 3) := by decide +kernel
theorem dX0_readLine_4 : decode cX0_readLine 4 = .ok (.getstatic 55, 3) := by decide +kernel
theorem dX0_readLine_7 : decode cX0_readLine 7 = .ok (.invokevirtual 61, 3) := by decide +kernel
theorem dX0_readLine_10 : decode cX0_readLine 10 = .ok (.ifCond .eq 8, 3) := by decide +kernel
theorem dX0_readLine_13 : decode cX0_readLine 13 = .ok (.aload_n 0, 1) := by decide +kernel
theorem dX0_readLine_14 : decode cX0_readLine 14 = .ok (.invokevirtual 65, 3) := by decide +kernel
theorem dX0_readLine_17 : decode cX0_readLine 17 = .ok (.ireturn, 1) := by decide +kernel
theorem dX0_readLine_18 : decode cX0_readLine 18 = .ok (.aload_n 0, 1) := by decide +kernel
theorem dX0_readLine_19 : decode cX0_readLine 19 = .ok (.getfield 38, 3) := by decide +kernel
theorem dX0_readLine_22 : decode cX0_readLine 22 = .ok (.getstatic 68, 3) := by decide +kernel
theorem dX0_readLine_25 : decode cX0_readLine 25 = .ok (.invokevirtual 61, 3) := by decide +kernel
theorem dX0_readLine_28 : decode cX0_readLine 28 = .ok (.ifCond .eq 8, 3) := by decide +kernel
theorem dX0_readLine_31 : decode cX0_readLine 31 = .ok (.aload_n 0, 1) := by decide +kernel
theorem dX0_readLine_32 : decode cX0_readLine 32 = .ok (.invokevirtual 71, 3) := by decide +kernel
theorem dX0_readLine_35 : decode cX0_readLine 35 = .ok (.ireturn, 1) := by decide +kernel
theorem dX0_readLine_36 : decode cX0_readLine 36 = .ok (.aload_n 0, 1) := by decide +kernel
theorem dX0_readLine_37 : decode cX0_readLine 37 = .ok (.getfield 38, 3) := by decide +kernel
theorem dX0_readLine_40 : decode cX0_readLine 40 = .ok (.getstatic 74, 3) := by decide +kernel
theorem dX0_readLine_43 : decode cX0_readLine 43 = .ok (.invokevirtual 61, 3) := by decide +kernel
theorem dX0_readLine_46 : decode cX0_readLine 46 = .ok (.ifCond .eq 8, 3) := by decide +kernel
theorem dX0_readLine_49 : decode cX0_readLine 49 = .ok (.aload_n 0, 1) := by decide +kernel
theorem dX0_readLine_50 : decode cX0_readLine 50 = .ok (.invokevirtual 77, 3) := by decide +kernel
theorem dX0_readLine_53 : decode cX0_readLine 53 = .ok (.ireturn, 1) := by decide +kernel
theorem dX0_readLine_54 : decode cX0_readLine 54 = .ok (.aload_n 0, 1) := by decide +kernel
theorem dX0_readLine_55 : decode cX0_readLine 55 = .ok (.getfield 38, 3) := by decide +kernel
theorem dX0_readLine_58 : decode cX0_readLine 58 = .ok (.getstatic 80, 3) := by decide +kernel
theorem dX0_readLine_61 : decode cX0_readLine 61 = .ok (.invokevirtual 61, 3) := by decide +kernel
theorem dX0_readLine_64 : decode cX0_readLine 64 = .ok (.ifCond .eq 8, 3) := by decide +kernel
theorem dX0_readLine_67 : decode cX0_readLine 67 = .ok (.aload_n 0, 1) := by decide +kernel
theorem dX0_readLine_68 : decode cX0_readLine 68 = .ok (.invokevirtual 83, 3) := by decide +kernel
theorem dX0_readLine_71 : decode cX0_readLine 71 = .ok (.ireturn, 1) := by decide +kernel
theorem dX0_readLine_72 : decode cX0_readLine 72 = .ok (.aload_n 0, 1) := by decide +kernel
theorem dX0_readLine_73 : decode cX0_readLine 73 = .ok (.getfield 38, 3) := by decide +kernel
theorem dX0_readLine_76 : decode cX0_readLine 76 = .ok (.getstatic 86, 3) := by decide +kernel
theorem dX0_readLine_79 : decode cX0_readLine 79 = .ok (.invokevirtual 61, 3) := by decide +kernel
theorem dX0_readLine_82 : decode cX0_readLine 82 = .ok (.ifCond .eq 8, 3) := by decide +kernel
theorem dX0_readLine_85 : decode cX0_readLine 85 = .ok (.aload_n 0, 1) := by decide +kernel
theorem dX0_readLine_86 : decode cX0_readLine 86 = .ok (.invokevirtual 89, 3) := by decide +kernel
theorem dX0_readLine_89 : decode cX0_readLine 89 = .ok (.ireturn, 1) := by decide +kernel
theorem dX0_readLine_90 : decode cX0_readLine 90 = .ok (.aload_n 0, 1) := by decide +kernel
theorem dX0_readLine_91 : decode cX0_readLine 91 = .ok (.getfield 38, 3) := by decide +kernel
theorem dX0_readLine_94 : decode cX0_readLine 94 = .ok (.getstatic 92, 3) := by decide +kernel
theorem dX0_readLine_97 : decode cX0_readLine 97 = .ok (.invokevirtual 61, 3) := by decide +kernel
theorem dX0_readLine_100 : decode cX0_readLine 100 = .ok (.ifCond .eq 8, 3) := by decide +kernel
theorem dX0_readLine_103 : decode cX0_readLine 103 = .ok (.aload_n 0, 1) := by decide +kernel
theorem dX0_readLine_104 : decode cX0_readLine 104 = .ok (.invokevirtual 95, 3) := by decide +kernel
theorem dX0_readLine_107 : decode cX0_readLine 107 = .ok (.ireturn, 1) := by decide +kernel
theorem dX0_readLine_108 : decode cX0_readLine 108 = .ok (.aload_n 0, 1) := by decide +kernel
theorem dX0_readLine_109 : decode cX0_readLine 109 = .ok (.iconst 1, 1) := by decide +kernel
theorem dX0_readLine_110 : decode cX0_readLine 110 = .ok (.invokevirtual 98, 3) := by decide +kernel
theorem dX0_readLine_113 : decode cX0_readLine 113 = .ok (.ireturn, 1) := by decide +kernel
theorem dX0_readSeats_0 : decode cX0_readSeats 0 = .ok (.aload_n 0, 1) := by decide +kernel
theorem dX0_readSeats_1 : decode cX0_readSeats 1 = .ok (.getfield 27, 3) := by decide +kernel
theorem dX0_readSeats_4 : decode cX0_readSeats 4 = .ok (.ifCond .eq 9, 3) := by decide +kernel
theorem dX0_readSeats_7 : decode cX0_readSeats 7 = .ok (.aload_n 0, 1) := by decide +kernel
theorem dX0_readSeats_8 : decode cX0_readSeats 8 = .ok (.iconst 3, 1) := by decide +kernel
theorem dX0_readSeats_9 : decode cX0_readSeats 9 = .ok (.invokevirtual 98, 3) := by decide +kernel
theorem dX0_readSeats_12 : decode cX0_readSeats 12 = .ok (.ireturn, 1) := by decide +kernel
theorem dX0_readSeats_13 : decode cX0_readSeats 13 = .ok (.aload_n 0, 1) := by decide +kernel
theorem dX0_readSeats_14 : decode cX0_readSeats 14 = .ok (.iconst 1, 1) := by decide +kernel
theorem dX0_readSeats_15 : decode cX0_readSeats 15 = .ok (.putfield 27, 3) := by decide +kernel
theorem dX0_readSeats_18 : decode cX0_readSeats 18 = .ok (.aload_n 0, 1) := by decide +kernel
theorem dX0_readSeats_19 : decode cX0_readSeats 19 = .ok (.getfield 38, 3) := by decide +kernel
theorem dX0_readSeats_22 : decode cX0_readSeats 22 = .ok (.invokevirtual 102, 3) := by decide +kernel
theorem dX0_readSeats_25 : decode cX0_readSeats 25 = .ok (.aload_n 0, 1) := by decide +kernel
theorem dX0_readSeats_26 : decode cX0_readSeats 26 = .ok (.iconst 1, 1) := by decide +kernel
theorem dX0_readSeats_27 : decode cX0_readSeats 27 = .ok (.bipush 8, 2) := by decide +kernel
theorem dX0_readSeats_29 : decode cX0_readSeats 29 = .ok (.invokevirtual 105, 3) := by decide +kernel
theorem dX0_readSeats_32 : decode cX0_readSeats 32 = .ok (.ifCond .ne 5, 3) := by decide +kernel
theorem dX0_readSeats_35 : decode cX0_readSeats 35 = .ok (.iconst 0, 1) := by decide +kernel
theorem dX0_readSeats_36 : decode cX0_readSeats 36 = .ok (.ireturn, 1) := by decide +kernel
theorem dX0_readSeats_37 : decode cX0_readSeats 37 = .ok (.aload_n 0, 1) := by decide +kernel
theorem dX0_readSeats_38 : decode cX0_readSeats 38 = .ok (.getfield 14, 3) := by decide +kernel
theorem dX0_readSeats_41 : decode cX0_readSeats 41 = .ok (.aload_n 0, 1) := by decide +kernel
theorem dX0_readSeats_42 : decode cX0_readSeats 42 = .ok (.getfield 109, 3) := by decide +kernel
theorem dX0_readSeats_45 : decode cX0_readSeats 45 = .ok (.putfield 112, 3) := by decide +kernel
theorem dX0_readSeats_48 : decode cX0_readSeats 48 = .ok (.iconst 1, 1) := by decide +kernel
theorem dX0_readSeats_49 : decode cX0_readSeats 49 = .ok (.ireturn, 1) := by decide +kernel
theorem dX0_readSlack_0 : decode cX0_readSlack 0 = .ok (.aload_n 0, 1) := by decide +kernel
theorem dX0_readSlack_1 : decode cX0_readSlack 1 = .ok (.getfield 31, 3) := by decide +kernel
theorem dX0_readSlack_4 : decode cX0_readSlack 4 = .ok (.ifCond .eq 9, 3) := by decide +kernel
theorem dX0_readSlack_7 : decode cX0_readSlack 7 = .ok (.aload_n 0, 1) := by decide +kernel
theorem dX0_readSlack_8 : decode cX0_readSlack 8 = .ok (.iconst 3, 1) := by decide +kernel
theorem dX0_readSlack_9 : decode cX0_readSlack 9 = .ok (.invokevirtual 98, 3) := by decide +kernel
theorem dX0_readSlack_12 : decode cX0_readSlack 12 = .ok (.ireturn, 1) := by decide +kernel
theorem dX0_readSlack_13 : decode cX0_readSlack 13 = .ok (.aload_n 0, 1) := by decide +kernel
theorem dX0_readSlack_14 : decode cX0_readSlack 14 = .ok (.iconst 1, 1) := by decide +kernel
theorem dX0_readSlack_15 : decode cX0_readSlack 15 = .ok (.putfield 31, 3) := by decide +kernel
theorem dX0_readSlack_18 : decode cX0_readSlack 18 = .ok (.aload_n 0, 1) := by decide +kernel
theorem dX0_readSlack_19 : decode cX0_readSlack 19 = .ok (.getfield 38, 3) := by decide +kernel
theorem dX0_readSlack_22 : decode cX0_readSlack 22 = .ok (.invokevirtual 102, 3) := by decide +kernel
theorem dX0_readSlack_25 : decode cX0_readSlack 25 = .ok (.aload_n 0, 1) := by decide +kernel
theorem dX0_readSlack_26 : decode cX0_readSlack 26 = .ok (.iconst 0, 1) := by decide +kernel
theorem dX0_readSlack_27 : decode cX0_readSlack 27 = .ok (.bipush 9, 2) := by decide +kernel
theorem dX0_readSlack_29 : decode cX0_readSlack 29 = .ok (.invokevirtual 105, 3) := by decide +kernel
theorem dX0_readSlack_32 : decode cX0_readSlack 32 = .ok (.ifCond .ne 5, 3) := by decide +kernel
theorem dX0_readSlack_35 : decode cX0_readSlack 35 = .ok (.iconst 0, 1) := by decide +kernel
theorem dX0_readSlack_36 : decode cX0_readSlack 36 = .ok (.ireturn, 1) := by decide +kernel
theorem dX0_readSlack_37 : decode cX0_readSlack 37 = .ok (.aload_n 0, 1) := by decide +kernel
theorem dX0_readSlack_38 : decode cX0_readSlack 38 = .ok (.getfield 14, 3) := by decide +kernel
theorem dX0_readSlack_41 : decode cX0_readSlack 41 = .ok (.aload_n 0, 1) := by decide +kernel
theorem dX0_readSlack_42 : decode cX0_readSlack 42 = .ok (.getfield 109, 3) := by decide +kernel
theorem dX0_readSlack_45 : decode cX0_readSlack 45 = .ok (.putfield 115, 3) := by decide +kernel
theorem dX0_readSlack_48 : decode cX0_readSlack 48 = .ok (.iconst 1, 1) := by decide +kernel
theorem dX0_readSlack_49 : decode cX0_readSlack 49 = .ok (.ireturn, 1) := by decide +kernel
theorem dX0_seeNewName_0 : decode cX0_seeNewName 0 = .ok (.aload_n 0, 1) := by decide +kernel
theorem dX0_seeNewName_1 : decode cX0_seeNewName 1 = .ok (.getfield 38, 3) := by decide +kernel
theorem dX0_seeNewName_4 : decode cX0_seeNewName 4 = .ok (.getfield 42, 3) := by decide +kernel
theorem dX0_seeNewName_7 : decode cX0_seeNewName 7 = .ok (.iconst 2, 1) := by decide +kernel
theorem dX0_seeNewName_8 : decode cX0_seeNewName 8 = .ok (.if_icmp .ne 16, 3) := by decide +kernel
theorem dX0_seeNewName_11 : decode cX0_seeNewName 11 = .ok (.aload_n 0, 1) := by decide +kernel
theorem dX0_seeNewName_12 : decode cX0_seeNewName 12 = .ok (.getfield 38, 3) := by decide +kernel
theorem dX0_seeNewName_15 : decode cX0_seeNewName 15 = .ok (.getfield 118, 3) := by decide +kernel
theorem dX0_seeNewName_18 : decode cX0_seeNewName 18 = .ok (.invokestatic 122, 3) := by decide +kernel
theorem dX0_seeNewName_21 : decode cX0_seeNewName 21 = .ok (.ifCond .eq 9, 3) := by decide +kernel
theorem dX0_seeNewName_24 : decode cX0_seeNewName 24 = .ok (.aload_n 0, 1) := by decide +kernel
theorem dX0_seeNewName_25 : decode cX0_seeNewName 25 = .ok (.iconst 1, 1) := by decide +kernel
theorem dX0_seeNewName_26 : decode cX0_seeNewName 26 = .ok (.invokevirtual 98, 3) := by decide +kernel
theorem dX0_seeNewName_29 : decode cX0_seeNewName 29 = .ok (.ireturn, 1) := by decide +kernel
theorem dX0_seeNewName_30 : decode cX0_seeNewName 30 = .ok (.aload_n 0, 1) := by decide +kernel
theorem dX0_seeNewName_31 : decode cX0_seeNewName 31 = .ok (.getfield 14, 3) := by decide +kernel
theorem dX0_seeNewName_34 : decode cX0_seeNewName 34 = .ok (.aload_n 0, 1) := by decide +kernel
theorem dX0_seeNewName_35 : decode cX0_seeNewName 35 = .ok (.getfield 38, 3) := by decide +kernel
theorem dX0_seeNewName_38 : decode cX0_seeNewName 38 = .ok (.getfield 118, 3) := by decide +kernel
theorem dX0_seeNewName_41 : decode cX0_seeNewName 41 = .ok (.invokevirtual 126, 3) := by decide +kernel
theorem dX0_seeNewName_44 : decode cX0_seeNewName 44 = .ok (.iconst (-1), 1) := by decide +kernel
theorem dX0_seeNewName_45 : decode cX0_seeNewName 45 = .ok (.if_icmp .ne 21, 3) := by decide +kernel
theorem dX0_seeNewName_48 : decode cX0_seeNewName 48 = .ok (.aload_n 0, 1) := by decide +kernel
theorem dX0_seeNewName_49 : decode cX0_seeNewName 49 = .ok (.getfield 14, 3) := by decide +kernel
theorem dX0_seeNewName_52 : decode cX0_seeNewName 52 = .ok (.aload_n 0, 1) := by decide +kernel
theorem dX0_seeNewName_53 : decode cX0_seeNewName 53 = .ok (.getfield 38, 3) := by decide +kernel
theorem dX0_seeNewName_56 : decode cX0_seeNewName 56 = .ok (.getfield 118, 3) := by decide +kernel
theorem dX0_seeNewName_59 : decode cX0_seeNewName 59 = .ok (.invokevirtual 130, 3) := by decide +kernel
theorem dX0_seeNewName_62 : decode cX0_seeNewName 62 = .ok (.iconst (-1), 1) := by decide +kernel
theorem dX0_seeNewName_63 : decode cX0_seeNewName 63 = .ok (.if_icmp .eq 7, 3) := by decide +kernel
theorem dX0_seeNewName_66 : decode cX0_seeNewName 66 = .ok (.iconst 1, 1) := by decide +kernel
theorem dX0_seeNewName_67 : decode cX0_seeNewName 67 = .ok (.goto 4, 3) := by decide +kernel
theorem dX0_seeNewName_70 : decode cX0_seeNewName 70 = .ok (.iconst 0, 1) := by decide +kernel
theorem dX0_seeNewName_71 : decode cX0_seeNewName 71 = .ok (.istore_n 1, 1) := by decide +kernel
theorem dX0_seeNewName_72 : decode cX0_seeNewName 72 = .ok (.iload_n 1, 1) := by decide +kernel
theorem dX0_seeNewName_73 : decode cX0_seeNewName 73 = .ok (.ifCond .eq 11, 3) := by decide +kernel
theorem dX0_seeNewName_76 : decode cX0_seeNewName 76 = .ok (.aload_n 0, 1) := by decide +kernel
theorem dX0_seeNewName_77 : decode cX0_seeNewName 77 = .ok (.iconst 3, 1) := by decide +kernel
theorem dX0_seeNewName_78 : decode cX0_seeNewName 78 = .ok (.invokevirtual 98, 3) := by decide +kernel
theorem dX0_seeNewName_81 : decode cX0_seeNewName 81 = .ok (.ifCond .eq 7, 3) := by decide +kernel
theorem dX0_seeNewName_84 : decode cX0_seeNewName 84 = .ok (.iconst 1, 1) := by decide +kernel
theorem dX0_seeNewName_85 : decode cX0_seeNewName 85 = .ok (.goto 4, 3) := by decide +kernel
theorem dX0_seeNewName_88 : decode cX0_seeNewName 88 = .ok (.iconst 0, 1) := by decide +kernel
theorem dX0_seeNewName_89 : decode cX0_seeNewName 89 = .ok (.ireturn, 1) := by decide +kernel
theorem dX0_readAsk_0 : decode cX0_readAsk 0 = .ok (.aload_n 0, 1) := by decide +kernel
theorem dX0_readAsk_1 : decode cX0_readAsk 1 = .ok (.getfield 14, 3) := by decide +kernel
theorem dX0_readAsk_4 : decode cX0_readAsk 4 = .ok (.getfield 133, 3) := by decide +kernel
theorem dX0_readAsk_7 : decode cX0_readAsk 7 = .ok (.bipush 9, 2) := by decide +kernel
theorem dX0_readAsk_9 : decode cX0_readAsk 9 = .ok (.if_icmp .lt 9, 3) := by decide +kernel
theorem dX0_readAsk_12 : decode cX0_readAsk 12 = .ok (.aload_n 0, 1) := by decide +kernel
theorem dX0_readAsk_13 : decode cX0_readAsk 13 = .ok (.iconst 4, 1) := by decide +kernel
theorem dX0_readAsk_14 : decode cX0_readAsk 14 = .ok (.invokevirtual 98, 3) := by decide +kernel
theorem dX0_readAsk_17 : decode cX0_readAsk 17 = .ok (.ireturn, 1) := by decide +kernel
theorem dX0_readAsk_18 : decode cX0_readAsk 18 = .ok (.aload_n 0, 1) := by decide +kernel
theorem dX0_readAsk_19 : decode cX0_readAsk 19 = .ok (.getfield 38, 3) := by decide +kernel
theorem dX0_readAsk_22 : decode cX0_readAsk 22 = .ok (.invokevirtual 102, 3) := by decide +kernel
theorem dX0_readAsk_25 : decode cX0_readAsk 25 = .ok (.aload_n 0, 1) := by decide +kernel
theorem dX0_readAsk_26 : decode cX0_readAsk 26 = .ok (.invokevirtual 136, 3) := by decide +kernel
theorem dX0_readAsk_29 : decode cX0_readAsk 29 = .ok (.ifCond .ne 5, 3) := by decide +kernel
theorem dX0_readAsk_32 : decode cX0_readAsk 32 = .ok (.iconst 0, 1) := by decide +kernel
theorem dX0_readAsk_33 : decode cX0_readAsk 33 = .ok (.ireturn, 1) := by decide +kernel
theorem dX0_readAsk_34 : decode cX0_readAsk 34 = .ok (.aload_n 0, 1) := by decide +kernel
theorem dX0_readAsk_35 : decode cX0_readAsk 35 = .ok (.getfield 14, 3) := by decide +kernel
theorem dX0_readAsk_38 : decode cX0_readAsk 38 = .ok (.getfield 139, 3) := by decide +kernel
theorem dX0_readAsk_41 : decode cX0_readAsk 41 = .ok (.aload_n 0, 1) := by decide +kernel
theorem dX0_readAsk_42 : decode cX0_readAsk 42 = .ok (.getfield 14, 3) := by decide +kernel
theorem dX0_readAsk_45 : decode cX0_readAsk 45 = .ok (.getfield 133, 3) := by decide +kernel
theorem dX0_readAsk_48 : decode cX0_readAsk 48 = .ok (.aload_n 0, 1) := by decide +kernel
theorem dX0_readAsk_49 : decode cX0_readAsk 49 = .ok (.getfield 38, 3) := by decide +kernel
theorem dX0_readAsk_52 : decode cX0_readAsk 52 = .ok (.getfield 118, 3) := by decide +kernel
theorem dX0_readAsk_55 : decode cX0_readAsk 55 = .ok (.lastore, 1) := by decide +kernel
theorem dX0_readAsk_56 : decode cX0_readAsk 56 = .ok (.aload_n 0, 1) := by decide +kernel
theorem dX0_readAsk_57 : decode cX0_readAsk 57 = .ok (.getfield 14, 3) := by decide +kernel
theorem dX0_readAsk_60 : decode cX0_readAsk 60 = .ok (.dup, 1) := by decide +kernel
theorem dX0_readAsk_61 : decode cX0_readAsk 61 = .ok (.getfield 133, 3) := by decide +kernel
theorem dX0_readAsk_64 : decode cX0_readAsk 64 = .ok (.iconst 1, 1) := by decide +kernel
theorem dX0_readAsk_65 : decode cX0_readAsk 65 = .ok (.iadd, 1) := by decide +kernel
theorem dX0_readAsk_66 : decode cX0_readAsk 66 = .ok (.putfield 133, 3) := by decide +kernel
theorem dX0_readAsk_69 : decode cX0_readAsk 69 = .ok (.aload_n 0, 1) := by decide +kernel
theorem dX0_readAsk_70 : decode cX0_readAsk 70 = .ok (.getfield 38, 3) := by decide +kernel
theorem dX0_readAsk_73 : decode cX0_readAsk 73 = .ok (.invokevirtual 102, 3) := by decide +kernel
theorem dX0_readAsk_76 : decode cX0_readAsk 76 = .ok (.iconst 1, 1) := by decide +kernel
theorem dX0_readAsk_77 : decode cX0_readAsk 77 = .ok (.ireturn, 1) := by decide +kernel
theorem dX0_readMan_0 : decode cX0_readMan 0 = .ok (.aload_n 0, 1) := by decide +kernel
theorem dX0_readMan_1 : decode cX0_readMan 1 = .ok (.getfield 14, 3) := by decide +kernel
theorem dX0_readMan_4 : decode cX0_readMan 4 = .ok (.getfield 143, 3) := by decide +kernel
theorem dX0_readMan_7 : decode cX0_readMan 7 = .ok (.bipush 10, 2) := by decide +kernel
theorem dX0_readMan_9 : decode cX0_readMan 9 = .ok (.if_icmp .lt 9, 3) := by decide +kernel
theorem dX0_readMan_12 : decode cX0_readMan 12 = .ok (.aload_n 0, 1) := by decide +kernel
theorem dX0_readMan_13 : decode cX0_readMan 13 = .ok (.iconst 4, 1) := by decide +kernel
theorem dX0_readMan_14 : decode cX0_readMan 14 = .ok (.invokevirtual 98, 3) := by decide +kernel
theorem dX0_readMan_17 : decode cX0_readMan 17 = .ok (.ireturn, 1) := by decide +kernel
theorem dX0_readMan_18 : decode cX0_readMan 18 = .ok (.aload_n 0, 1) := by decide +kernel
theorem dX0_readMan_19 : decode cX0_readMan 19 = .ok (.getfield 38, 3) := by decide +kernel
theorem dX0_readMan_22 : decode cX0_readMan 22 = .ok (.invokevirtual 102, 3) := by decide +kernel
theorem dX0_readMan_25 : decode cX0_readMan 25 = .ok (.aload_n 0, 1) := by decide +kernel
theorem dX0_readMan_26 : decode cX0_readMan 26 = .ok (.invokevirtual 136, 3) := by decide +kernel
theorem dX0_readMan_29 : decode cX0_readMan 29 = .ok (.ifCond .ne 5, 3) := by decide +kernel
theorem dX0_readMan_32 : decode cX0_readMan 32 = .ok (.iconst 0, 1) := by decide +kernel
theorem dX0_readMan_33 : decode cX0_readMan 33 = .ok (.ireturn, 1) := by decide +kernel
theorem dX0_readMan_34 : decode cX0_readMan 34 = .ok (.aload_n 0, 1) := by decide +kernel
theorem dX0_readMan_35 : decode cX0_readMan 35 = .ok (.getfield 14, 3) := by decide +kernel
theorem dX0_readMan_38 : decode cX0_readMan 38 = .ok (.getfield 143, 3) := by decide +kernel
theorem dX0_readMan_41 : decode cX0_readMan 41 = .ok (.istore_n 1, 1) := by decide +kernel
theorem dX0_readMan_42 : decode cX0_readMan 42 = .ok (.aload_n 0, 1) := by decide +kernel
theorem dX0_readMan_43 : decode cX0_readMan 43 = .ok (.getfield 14, 3) := by decide +kernel
theorem dX0_readMan_46 : decode cX0_readMan 46 = .ok (.getfield 146, 3) := by decide +kernel
theorem dX0_readMan_49 : decode cX0_readMan 49 = .ok (.iload_n 1, 1) := by decide +kernel
theorem dX0_readMan_50 : decode cX0_readMan 50 = .ok (.aload_n 0, 1) := by decide +kernel
theorem dX0_readMan_51 : decode cX0_readMan 51 = .ok (.getfield 38, 3) := by decide +kernel
theorem dX0_readMan_54 : decode cX0_readMan 54 = .ok (.getfield 118, 3) := by decide +kernel
theorem dX0_readMan_57 : decode cX0_readMan 57 = .ok (.lastore, 1) := by decide +kernel
theorem dX0_readMan_58 : decode cX0_readMan 58 = .ok (.aload_n 0, 1) := by decide +kernel
theorem dX0_readMan_59 : decode cX0_readMan 59 = .ok (.getfield 14, 3) := by decide +kernel
theorem dX0_readMan_62 : decode cX0_readMan 62 = .ok (.dup, 1) := by decide +kernel
theorem dX0_readMan_63 : decode cX0_readMan 63 = .ok (.getfield 143, 3) := by decide +kernel
theorem dX0_readMan_66 : decode cX0_readMan 66 = .ok (.iconst 1, 1) := by decide +kernel
theorem dX0_readMan_67 : decode cX0_readMan 67 = .ok (.iadd, 1) := by decide +kernel
theorem dX0_readMan_68 : decode cX0_readMan 68 = .ok (.putfield 143, 3) := by decide +kernel
theorem dX0_readMan_71 : decode cX0_readMan 71 = .ok (.aload_n 0, 1) := by decide +kernel
theorem dX0_readMan_72 : decode cX0_readMan 72 = .ok (.getfield 38, 3) := by decide +kernel
theorem dX0_readMan_75 : decode cX0_readMan 75 = .ok (.invokevirtual 102, 3) := by decide +kernel
theorem dX0_readMan_78 : decode cX0_readMan 78 = .ok (.aload_n 0, 1) := by decide +kernel
theorem dX0_readMan_79 : decode cX0_readMan 79 = .ok (.iconst 0, 1) := by decide +kernel
theorem dX0_readMan_80 : decode cX0_readMan 80 = .ok (.bipush 20, 2) := by decide +kernel
theorem dX0_readMan_82 : decode cX0_readMan 82 = .ok (.invokevirtual 105, 3) := by decide +kernel
theorem dX0_readMan_85 : decode cX0_readMan 85 = .ok (.ifCond .ne 5, 3) := by decide +kernel
theorem dX0_readMan_88 : decode cX0_readMan 88 = .ok (.iconst 0, 1) := by decide +kernel
theorem dX0_readMan_89 : decode cX0_readMan 89 = .ok (.ireturn, 1) := by decide +kernel
theorem dX0_readMan_90 : decode cX0_readMan 90 = .ok (.aload_n 0, 1) := by decide +kernel
theorem dX0_readMan_91 : decode cX0_readMan 91 = .ok (.getfield 14, 3) := by decide +kernel
theorem dX0_readMan_94 : decode cX0_readMan 94 = .ok (.getfield 149, 3) := by decide +kernel
theorem dX0_readMan_97 : decode cX0_readMan 97 = .ok (.iload_n 1, 1) := by decide +kernel
theorem dX0_readMan_98 : decode cX0_readMan 98 = .ok (.aload_n 0, 1) := by decide +kernel
theorem dX0_readMan_99 : decode cX0_readMan 99 = .ok (.getfield 109, 3) := by decide +kernel
theorem dX0_readMan_102 : decode cX0_readMan 102 = .ok (.iastore, 1) := by decide +kernel
theorem dX0_readMan_103 : decode cX0_readMan 103 = .ok (.iconst 0, 1) := by decide +kernel
theorem dX0_readMan_104 : decode cX0_readMan 104 = .ok (.istore_n 2, 1) := by decide +kernel
theorem dX0_readMan_105 : decode cX0_readMan 105 = .ok (.iload_n 2, 1) := by decide +kernel
theorem dX0_readMan_106 : decode cX0_readMan 106 = .ok (.bipush 9, 2) := by decide +kernel
theorem dX0_readMan_108 : decode cX0_readMan 108 = .ok (.if_icmp .gt 31, 3) := by decide +kernel
theorem dX0_readMan_111 : decode cX0_readMan 111 = .ok (.aload_n 0, 1) := by decide +kernel
theorem dX0_readMan_112 : decode cX0_readMan 112 = .ok (.getfield 38, 3) := by decide +kernel
theorem dX0_readMan_115 : decode cX0_readMan 115 = .ok (.bipush 59, 2) := by decide +kernel
theorem dX0_readMan_117 : decode cX0_readMan 117 = .ok (.invokevirtual 153, 3) := by decide +kernel
theorem dX0_readMan_120 : decode cX0_readMan 120 = .ok (.ifCond .ne 19, 3) := by decide +kernel
theorem dX0_readMan_123 : decode cX0_readMan 123 = .ok (.aload_n 0, 1) := by decide +kernel
theorem dX0_readMan_124 : decode cX0_readMan 124 = .ok (.iload_n 1, 1) := by decide +kernel
theorem dX0_readMan_125 : decode cX0_readMan 125 = .ok (.invokevirtual 156, 3) := by decide +kernel
theorem dX0_readMan_128 : decode cX0_readMan 128 = .ok (.ifCond .ne 5, 3) := by decide +kernel
theorem dX0_readMan_131 : decode cX0_readMan 131 = .ok (.iconst 0, 1) := by decide +kernel
theorem dX0_readMan_132 : decode cX0_readMan 132 = .ok (.ireturn, 1) := by decide +kernel
theorem dX0_readMan_133 : decode cX0_readMan 133 = .ok (.iinc 2 1, 3) := by decide +kernel
theorem dX0_readMan_136 : decode cX0_readMan 136 = .ok (.goto (-31), 3) := by decide +kernel
theorem dX0_readMan_139 : decode cX0_readMan 139 = .ok (.iconst 1, 1) := by decide +kernel
theorem dX0_readMan_140 : decode cX0_readMan 140 = .ok (.ireturn, 1) := by decide +kernel
theorem dX0_readOpinion_0 : decode cX0_readOpinion 0 = .ok (.aload_n 0, 1) := by decide +kernel
theorem dX0_readOpinion_1 : decode cX0_readOpinion 1 = .ok (.aload_n 0, 1) := by decide +kernel
theorem dX0_readOpinion_2 : decode cX0_readOpinion 2 = .ok (.getfield 14, 3) := by decide +kernel
theorem dX0_readOpinion_5 : decode cX0_readOpinion 5 = .ok (.invokevirtual 159, 3) := by decide +kernel
theorem dX0_readOpinion_8 : decode cX0_readOpinion 8 = .ok (.ifCond .ne 5, 3) := by decide +kernel
theorem dX0_readOpinion_11 : decode cX0_readOpinion 11 = .ok (.iconst 0, 1) := by decide +kernel
theorem dX0_readOpinion_12 : decode cX0_readOpinion 12 = .ok (.ireturn, 1) := by decide +kernel
theorem dX0_readOpinion_13 : decode cX0_readOpinion 13 = .ok (.iload_n 1, 1) := by decide +kernel
theorem dX0_readOpinion_14 : decode cX0_readOpinion 14 = .ok (.bipush 9, 2) := by decide +kernel
theorem dX0_readOpinion_16 : decode cX0_readOpinion 16 = .ok (.imul, 1) := by decide +kernel
theorem dX0_readOpinion_17 : decode cX0_readOpinion 17 = .ok (.aload_n 0, 1) := by decide +kernel
theorem dX0_readOpinion_18 : decode cX0_readOpinion 18 = .ok (.getfield 109, 3) := by decide +kernel
theorem dX0_readOpinion_21 : decode cX0_readOpinion 21 = .ok (.iadd, 1) := by decide +kernel
theorem dX0_readOpinion_22 : decode cX0_readOpinion 22 = .ok (.istore_n 2, 1) := by decide +kernel
theorem dX0_readOpinion_23 : decode cX0_readOpinion 23 = .ok (.aload_n 0, 1) := by decide +kernel
theorem dX0_readOpinion_24 : decode cX0_readOpinion 24 = .ok (.getfield 14, 3) := by decide +kernel
theorem dX0_readOpinion_27 : decode cX0_readOpinion 27 = .ok (.getfield 163, 3) := by decide +kernel
theorem dX0_readOpinion_30 : decode cX0_readOpinion 30 = .ok (.iload_n 2, 1) := by decide +kernel
theorem dX0_readOpinion_31 : decode cX0_readOpinion 31 = .ok (.iaload, 1) := by decide +kernel
theorem dX0_readOpinion_32 : decode cX0_readOpinion 32 = .ok (.ifCond .eq 9, 3) := by decide +kernel
theorem dX0_readOpinion_35 : decode cX0_readOpinion 35 = .ok (.aload_n 0, 1) := by decide +kernel
theorem dX0_readOpinion_36 : decode cX0_readOpinion 36 = .ok (.iconst 3, 1) := by decide +kernel
theorem dX0_readOpinion_37 : decode cX0_readOpinion 37 = .ok (.invokevirtual 98, 3) := by decide +kernel
theorem dX0_readOpinion_40 : decode cX0_readOpinion 40 = .ok (.ireturn, 1) := by decide +kernel
theorem dX0_readOpinion_41 : decode cX0_readOpinion 41 = .ok (.aload_n 0, 1) := by decide +kernel
theorem dX0_readOpinion_42 : decode cX0_readOpinion 42 = .ok (.getfield 38, 3) := by decide +kernel
theorem dX0_readOpinion_45 : decode cX0_readOpinion 45 = .ok (.invokevirtual 102, 3) := by decide +kernel
theorem dX0_readOpinion_48 : decode cX0_readOpinion 48 = .ok (.aload_n 0, 1) := by decide +kernel
theorem dX0_readOpinion_49 : decode cX0_readOpinion 49 = .ok (.invokevirtual 166, 3) := by decide +kernel
theorem dX0_readOpinion_52 : decode cX0_readOpinion 52 = .ok (.ifCond .ne 5, 3) := by decide +kernel
theorem dX0_readOpinion_55 : decode cX0_readOpinion 55 = .ok (.iconst 0, 1) := by decide +kernel
theorem dX0_readOpinion_56 : decode cX0_readOpinion 56 = .ok (.ireturn, 1) := by decide +kernel
theorem dX0_readOpinion_57 : decode cX0_readOpinion 57 = .ok (.aload_n 0, 1) := by decide +kernel
theorem dX0_readOpinion_58 : decode cX0_readOpinion 58 = .ok (.getfield 109, 3) := by decide +kernel
theorem dX0_readOpinion_61 : decode cX0_readOpinion 61 = .ok (.istore_n 3, 1) := by decide +kernel
theorem dX0_readOpinion_62 : decode cX0_readOpinion 62 = .ok (.aload_n 0, 1) := by decide +kernel
theorem dX0_readOpinion_63 : decode cX0_readOpinion 63 = .ok (.iconst 1, 1) := by decide +kernel
theorem dX0_readOpinion_64 : decode cX0_readOpinion 64 = .ok (.bipush 9, 2) := by decide +kernel
theorem dX0_readOpinion_66 : decode cX0_readOpinion 66 = .ok (.invokevirtual 105, 3) := by decide +kernel
theorem dX0_readOpinion_69 : decode cX0_readOpinion 69 = .ok (.ifCond .ne 5, 3) := by decide +kernel
theorem dX0_readOpinion_72 : decode cX0_readOpinion 72 = .ok (.iconst 0, 1) := by decide +kernel
theorem dX0_readOpinion_73 : decode cX0_readOpinion 73 = .ok (.ireturn, 1) := by decide +kernel
theorem dX0_readOpinion_74 : decode cX0_readOpinion 74 = .ok (.aload_n 0, 1) := by decide +kernel
theorem dX0_readOpinion_75 : decode cX0_readOpinion 75 = .ok (.getfield 14, 3) := by decide +kernel
theorem dX0_readOpinion_78 : decode cX0_readOpinion 78 = .ok (.getfield 163, 3) := by decide +kernel
theorem dX0_readOpinion_81 : decode cX0_readOpinion 81 = .ok (.iload_n 2, 1) := by decide +kernel
theorem dX0_readOpinion_82 : decode cX0_readOpinion 82 = .ok (.iload_n 3, 1) := by decide +kernel
theorem dX0_readOpinion_83 : decode cX0_readOpinion 83 = .ok (.aload_n 0, 1) := by decide +kernel
theorem dX0_readOpinion_84 : decode cX0_readOpinion 84 = .ok (.getfield 109, 3) := by decide +kernel
theorem dX0_readOpinion_87 : decode cX0_readOpinion 87 = .ok (.imul, 1) := by decide +kernel
theorem dX0_readOpinion_88 : decode cX0_readOpinion 88 = .ok (.iastore, 1) := by decide +kernel
theorem dX0_readOpinion_89 : decode cX0_readOpinion 89 = .ok (.iconst 1, 1) := by decide +kernel
theorem dX0_readOpinion_90 : decode cX0_readOpinion 90 = .ok (.ireturn, 1) := by decide +kernel
theorem dX0_readChild_0 : decode cX0_readChild 0 = .ok (.aload_n 0, 1) := by decide +kernel
theorem dX0_readChild_1 : decode cX0_readChild 1 = .ok (.getfield 38, 3) := by decide +kernel
theorem dX0_readChild_4 : decode cX0_readChild 4 = .ok (.invokevirtual 102, 3) := by decide +kernel
theorem dX0_readChild_7 : decode cX0_readChild 7 = .ok (.aload_n 0, 1) := by decide +kernel
theorem dX0_readChild_8 : decode cX0_readChild 8 = .ok (.aload_n 0, 1) := by decide +kernel
theorem dX0_readChild_9 : decode cX0_readChild 9 = .ok (.getfield 14, 3) := by decide +kernel
theorem dX0_readChild_12 : decode cX0_readChild 12 = .ok (.invokevirtual 169, 3) := by decide +kernel
theorem dX0_readChild_15 : decode cX0_readChild 15 = .ok (.ifCond .ne 5, 3) := by decide +kernel
theorem dX0_readChild_18 : decode cX0_readChild 18 = .ok (.iconst 0, 1) := by decide +kernel
theorem dX0_readChild_19 : decode cX0_readChild 19 = .ok (.ireturn, 1) := by decide +kernel
theorem dX0_readChild_20 : decode cX0_readChild 20 = .ok (.aload_n 0, 1) := by decide +kernel
theorem dX0_readChild_21 : decode cX0_readChild 21 = .ok (.getfield 109, 3) := by decide +kernel
theorem dX0_readChild_24 : decode cX0_readChild 24 = .ok (.istore_n 1, 1) := by decide +kernel
theorem dX0_readChild_25 : decode cX0_readChild 25 = .ok (.aload_n 0, 1) := by decide +kernel
theorem dX0_readChild_26 : decode cX0_readChild 26 = .ok (.getfield 14, 3) := by decide +kernel
theorem dX0_readChild_29 : decode cX0_readChild 29 = .ok (.getfield 172, 3) := by decide +kernel
theorem dX0_readChild_32 : decode cX0_readChild 32 = .ok (.iload_n 1, 1) := by decide +kernel
theorem dX0_readChild_33 : decode cX0_readChild 33 = .ok (.iaload, 1) := by decide +kernel
theorem dX0_readChild_34 : decode cX0_readChild 34 = .ok (.iconst (-1), 1) := by decide +kernel
theorem dX0_readChild_35 : decode cX0_readChild 35 = .ok (.if_icmp .eq 9, 3) := by decide +kernel
theorem dX0_readChild_38 : decode cX0_readChild 38 = .ok (.aload_n 0, 1) := by decide +kernel
theorem dX0_readChild_39 : decode cX0_readChild 39 = .ok (.iconst 3, 1) := by decide +kernel
theorem dX0_readChild_40 : decode cX0_readChild 40 = .ok (.invokevirtual 98, 3) := by decide +kernel
theorem dX0_readChild_43 : decode cX0_readChild 43 = .ok (.ireturn, 1) := by decide +kernel
theorem dX0_readChild_44 : decode cX0_readChild 44 = .ok (.aload_n 0, 1) := by decide +kernel
theorem dX0_readChild_45 : decode cX0_readChild 45 = .ok (.getfield 38, 3) := by decide +kernel
theorem dX0_readChild_48 : decode cX0_readChild 48 = .ok (.invokevirtual 102, 3) := by decide +kernel
theorem dX0_readChild_51 : decode cX0_readChild 51 = .ok (.aload_n 0, 1) := by decide +kernel
theorem dX0_readChild_52 : decode cX0_readChild 52 = .ok (.aload_n 0, 1) := by decide +kernel
theorem dX0_readChild_53 : decode cX0_readChild 53 = .ok (.getfield 14, 3) := by decide +kernel
theorem dX0_readChild_56 : decode cX0_readChild 56 = .ok (.invokevirtual 169, 3) := by decide +kernel
theorem dX0_readChild_59 : decode cX0_readChild 59 = .ok (.ifCond .ne 5, 3) := by decide +kernel
theorem dX0_readChild_62 : decode cX0_readChild 62 = .ok (.iconst 0, 1) := by decide +kernel
theorem dX0_readChild_63 : decode cX0_readChild 63 = .ok (.ireturn, 1) := by decide +kernel
theorem dX0_readChild_64 : decode cX0_readChild 64 = .ok (.aload_n 0, 1) := by decide +kernel
theorem dX0_readChild_65 : decode cX0_readChild 65 = .ok (.getfield 109, 3) := by decide +kernel
theorem dX0_readChild_68 : decode cX0_readChild 68 = .ok (.iload_n 1, 1) := by decide +kernel
theorem dX0_readChild_69 : decode cX0_readChild 69 = .ok (.if_icmp .ne 9, 3) := by decide +kernel
theorem dX0_readChild_72 : decode cX0_readChild 72 = .ok (.aload_n 0, 1) := by decide +kernel
theorem dX0_readChild_73 : decode cX0_readChild 73 = .ok (.iconst 3, 1) := by decide +kernel
theorem dX0_readChild_74 : decode cX0_readChild 74 = .ok (.invokevirtual 98, 3) := by decide +kernel
theorem dX0_readChild_77 : decode cX0_readChild 77 = .ok (.ireturn, 1) := by decide +kernel
theorem dX0_readChild_78 : decode cX0_readChild 78 = .ok (.aload_n 0, 1) := by decide +kernel
theorem dX0_readChild_79 : decode cX0_readChild 79 = .ok (.getfield 14, 3) := by decide +kernel
theorem dX0_readChild_82 : decode cX0_readChild 82 = .ok (.getfield 172, 3) := by decide +kernel
theorem dX0_readChild_85 : decode cX0_readChild 85 = .ok (.iload_n 1, 1) := by decide +kernel
theorem dX0_readChild_86 : decode cX0_readChild 86 = .ok (.aload_n 0, 1) := by decide +kernel
theorem dX0_readChild_87 : decode cX0_readChild 87 = .ok (.getfield 109, 3) := by decide +kernel
theorem dX0_readChild_90 : decode cX0_readChild 90 = .ok (.iastore, 1) := by decide +kernel
theorem dX0_readChild_91 : decode cX0_readChild 91 = .ok (.aload_n 0, 1) := by decide +kernel
theorem dX0_readChild_92 : decode cX0_readChild 92 = .ok (.getfield 38, 3) := by decide +kernel
theorem dX0_readChild_95 : decode cX0_readChild 95 = .ok (.invokevirtual 102, 3) := by decide +kernel
theorem dX0_readChild_98 : decode cX0_readChild 98 = .ok (.iconst 1, 1) := by decide +kernel
theorem dX0_readChild_99 : decode cX0_readChild 99 = .ok (.ireturn, 1) := by decide +kernel
theorem dX0_readKin_0 : decode cX0_readKin 0 = .ok (.aload_n 0, 1) := by decide +kernel
theorem dX0_readKin_1 : decode cX0_readKin 1 = .ok (.getfield 38, 3) := by decide +kernel
theorem dX0_readKin_4 : decode cX0_readKin 4 = .ok (.invokevirtual 102, 3) := by decide +kernel
theorem dX0_readKin_7 : decode cX0_readKin 7 = .ok (.aload_n 0, 1) := by decide +kernel
theorem dX0_readKin_8 : decode cX0_readKin 8 = .ok (.aload_n 0, 1) := by decide +kernel
theorem dX0_readKin_9 : decode cX0_readKin 9 = .ok (.getfield 14, 3) := by decide +kernel
theorem dX0_readKin_12 : decode cX0_readKin 12 = .ok (.invokevirtual 169, 3) := by decide +kernel
theorem dX0_readKin_15 : decode cX0_readKin 15 = .ok (.ifCond .ne 5, 3) := by decide +kernel
theorem dX0_readKin_18 : decode cX0_readKin 18 = .ok (.iconst 0, 1) := by decide +kernel
theorem dX0_readKin_19 : decode cX0_readKin 19 = .ok (.ireturn, 1) := by decide +kernel
theorem dX0_readKin_20 : decode cX0_readKin 20 = .ok (.aload_n 0, 1) := by decide +kernel
theorem dX0_readKin_21 : decode cX0_readKin 21 = .ok (.getfield 109, 3) := by decide +kernel
theorem dX0_readKin_24 : decode cX0_readKin 24 = .ok (.istore_n 1, 1) := by decide +kernel
theorem dX0_readKin_25 : decode cX0_readKin 25 = .ok (.aload_n 0, 1) := by decide +kernel
theorem dX0_readKin_26 : decode cX0_readKin 26 = .ok (.getfield 38, 3) := by decide +kernel
theorem dX0_readKin_29 : decode cX0_readKin 29 = .ok (.invokevirtual 102, 3) := by decide +kernel
theorem dX0_readKin_32 : decode cX0_readKin 32 = .ok (.aload_n 0, 1) := by decide +kernel
theorem dX0_readKin_33 : decode cX0_readKin 33 = .ok (.aload_n 0, 1) := by decide +kernel
theorem dX0_readKin_34 : decode cX0_readKin 34 = .ok (.getfield 14, 3) := by decide +kernel
theorem dX0_readKin_37 : decode cX0_readKin 37 = .ok (.invokevirtual 169, 3) := by decide +kernel
theorem dX0_readKin_40 : decode cX0_readKin 40 = .ok (.ifCond .ne 5, 3) := by decide +kernel
theorem dX0_readKin_43 : decode cX0_readKin 43 = .ok (.iconst 0, 1) := by decide +kernel
theorem dX0_readKin_44 : decode cX0_readKin 44 = .ok (.ireturn, 1) := by decide +kernel
theorem dX0_readKin_45 : decode cX0_readKin 45 = .ok (.aload_n 0, 1) := by decide +kernel
theorem dX0_readKin_46 : decode cX0_readKin 46 = .ok (.getfield 109, 3) := by decide +kernel
theorem dX0_readKin_49 : decode cX0_readKin 49 = .ok (.iload_n 1, 1) := by decide +kernel
theorem dX0_readKin_50 : decode cX0_readKin 50 = .ok (.if_icmp .eq 23, 3) := by decide +kernel
theorem dX0_readKin_53 : decode cX0_readKin 53 = .ok (.aload_n 0, 1) := by decide +kernel
theorem dX0_readKin_54 : decode cX0_readKin 54 = .ok (.getfield 14, 3) := by decide +kernel
theorem dX0_readKin_57 : decode cX0_readKin 57 = .ok (.getfield 175, 3) := by decide +kernel
theorem dX0_readKin_60 : decode cX0_readKin 60 = .ok (.iload_n 1, 1) := by decide +kernel
theorem dX0_readKin_61 : decode cX0_readKin 61 = .ok (.iaload, 1) := by decide +kernel
theorem dX0_readKin_62 : decode cX0_readKin 62 = .ok (.aload_n 0, 1) := by decide +kernel
theorem dX0_readKin_63 : decode cX0_readKin 63 = .ok (.getfield 109, 3) := by decide +kernel
theorem dX0_readKin_66 : decode cX0_readKin 66 = .ok (.invokestatic 178, 3) := by decide +kernel
theorem dX0_readKin_69 : decode cX0_readKin 69 = .ok (.iconst 1, 1) := by decide +kernel
theorem dX0_readKin_70 : decode cX0_readKin 70 = .ok (.if_icmp .ne 9, 3) := by decide +kernel
theorem dX0_readKin_73 : decode cX0_readKin 73 = .ok (.aload_n 0, 1) := by decide +kernel
theorem dX0_readKin_74 : decode cX0_readKin 74 = .ok (.iconst 3, 1) := by decide +kernel
theorem dX0_readKin_75 : decode cX0_readKin 75 = .ok (.invokevirtual 98, 3) := by decide +kernel
theorem dX0_readKin_78 : decode cX0_readKin 78 = .ok (.ireturn, 1) := by decide +kernel
theorem dX0_readKin_79 : decode cX0_readKin 79 = .ok (.aload_n 0, 1) := by decide +kernel
theorem dX0_readKin_80 : decode cX0_readKin 80 = .ok (.getfield 14, 3) := by decide +kernel
theorem dX0_readKin_83 : decode cX0_readKin 83 = .ok (.getfield 175, 3) := by decide +kernel
theorem dX0_readKin_86 : decode cX0_readKin 86 = .ok (.iload_n 1, 1) := by decide +kernel
theorem dX0_readKin_87 : decode cX0_readKin 87 = .ok (.dup2, 1) := by decide +kernel
theorem dX0_readKin_88 : decode cX0_readKin 88 = .ok (.iaload, 1) := by decide +kernel
theorem dX0_readKin_89 : decode cX0_readKin 89 = .ok (.iconst 1, 1) := by decide +kernel
theorem dX0_readKin_90 : decode cX0_readKin 90 = .ok (.aload_n 0, 1) := by decide +kernel
theorem dX0_readKin_91 : decode cX0_readKin 91 = .ok (.getfield 109, 3) := by decide +kernel
theorem dX0_readKin_94 : decode cX0_readKin 94 = .ok (.ishl, 1) := by decide +kernel
theorem dX0_readKin_95 : decode cX0_readKin 95 = .ok (.ior, 1) := by decide +kernel
theorem dX0_readKin_96 : decode cX0_readKin 96 = .ok (.iastore, 1) := by decide +kernel
theorem dX0_readKin_97 : decode cX0_readKin 97 = .ok (.aload_n 0, 1) := by decide +kernel
theorem dX0_readKin_98 : decode cX0_readKin 98 = .ok (.getfield 14, 3) := by decide +kernel
theorem dX0_readKin_101 : decode cX0_readKin 101 = .ok (.getfield 175, 3) := by decide +kernel
theorem dX0_readKin_104 : decode cX0_readKin 104 = .ok (.aload_n 0, 1) := by decide +kernel
theorem dX0_readKin_105 : decode cX0_readKin 105 = .ok (.getfield 109, 3) := by decide +kernel
theorem dX0_readKin_108 : decode cX0_readKin 108 = .ok (.dup2, 1) := by decide +kernel
theorem dX0_readKin_109 : decode cX0_readKin 109 = .ok (.iaload, 1) := by decide +kernel
theorem dX0_readKin_110 : decode cX0_readKin 110 = .ok (.iconst 1, 1) := by decide +kernel
theorem dX0_readKin_111 : decode cX0_readKin 111 = .ok (.iload_n 1, 1) := by decide +kernel
theorem dX0_readKin_112 : decode cX0_readKin 112 = .ok (.ishl, 1) := by decide +kernel
theorem dX0_readKin_113 : decode cX0_readKin 113 = .ok (.ior, 1) := by decide +kernel
theorem dX0_readKin_114 : decode cX0_readKin 114 = .ok (.iastore, 1) := by decide +kernel
theorem dX0_readKin_115 : decode cX0_readKin 115 = .ok (.aload_n 0, 1) := by decide +kernel
theorem dX0_readKin_116 : decode cX0_readKin 116 = .ok (.getfield 14, 3) := by decide +kernel
theorem dX0_readKin_119 : decode cX0_readKin 119 = .ok (.dup, 1) := by decide +kernel
theorem dX0_readKin_120 : decode cX0_readKin 120 = .ok (.getfield 182, 3) := by decide +kernel
theorem dX0_readKin_123 : decode cX0_readKin 123 = .ok (.iconst 1, 1) := by decide +kernel
theorem dX0_readKin_124 : decode cX0_readKin 124 = .ok (.iadd, 1) := by decide +kernel
theorem dX0_readKin_125 : decode cX0_readKin 125 = .ok (.putfield 182, 3) := by decide +kernel
theorem dX0_readKin_128 : decode cX0_readKin 128 = .ok (.aload_n 0, 1) := by decide +kernel
theorem dX0_readKin_129 : decode cX0_readKin 129 = .ok (.getfield 38, 3) := by decide +kernel
theorem dX0_readKin_132 : decode cX0_readKin 132 = .ok (.invokevirtual 102, 3) := by decide +kernel
theorem dX0_readKin_135 : decode cX0_readKin 135 = .ok (.iconst 1, 1) := by decide +kernel
theorem dX0_readKin_136 : decode cX0_readKin 136 = .ok (.ireturn, 1) := by decide +kernel
theorem dX1_init_0 : decode cX1_init 0 = .ok (.aload_n 0, 1) := by decide +kernel
theorem dX1_init_1 : decode cX1_init 1 = .ok (.aload_n 1, 1) := by decide +kernel
theorem dX1_init_2 : decode cX1_init 2 = .ok (.invokespecial 3, 3) := by decide +kernel
theorem dX1_init_5 : decode cX1_init 5 = .ok (.aload_n 0, 1) := by decide +kernel
theorem dX1_init_6 : decode cX1_init 6 = .ok (.bipush 40, 2) := by decide +kernel
theorem dX1_init_8 : decode cX1_init 8 = .ok (.newarray .int, 2) := by decide +kernel
theorem dX1_init_10 : decode cX1_init 10 = .ok (.putfield 9, 3) := by decide +kernel
theorem dX1_init_13 : decode cX1_init 13 = .ok (.aload_n 0, 1) := by decide +kernel
theorem dX1_init_14 : decode cX1_init 14 = .ok (.bipush 40, 2) := by decide +kernel
theorem dX1_init_16 : decode cX1_init 16 = .ok (.newarray .int, 2) := by decide +kernel
theorem dX1_init_18 : decode cX1_init 18 = .ok (.putfield 15, 3) := by decide +kernel
theorem dX1_init_21 : decode cX1_init 21 = .ok (.aload_n 0, 1) := by decide +kernel
theorem dX1_init_22 : decode cX1_init 22 = .ok (.bipush 40, 2) := by decide +kernel
theorem dX1_init_24 : decode cX1_init 24 = .ok (.newarray .int, 2) := by decide +kernel
theorem dX1_init_26 : decode cX1_init 26 = .ok (.putfield 18, 3) := by decide +kernel
theorem dX1_init_29 : decode cX1_init 29 = .ok (.aload_n 0, 1) := by decide +kernel
theorem dX1_init_30 : decode cX1_init 30 = .ok (.bipush 40, 2) := by decide +kernel
theorem dX1_init_32 : decode cX1_init 32 = .ok (.newarray .int, 2) := by decide +kernel
theorem dX1_init_34 : decode cX1_init 34 = .ok (.putfield 21, 3) := by decide +kernel
theorem dX1_init_37 : decode cX1_init 37 = .ok (.return_, 1) := by decide +kernel
theorem dX1_read_0 : decode cX1_read 0 = .ok (.aload_n 0, 1) := by decide +kernel
theorem dX1_read_1 : decode cX1_read 1 = .ok (.iconst 0, 1) := by decide +kernel
theorem dX1_read_2 : decode cX1_read 2 = .ok (.putfield 24, 3) := by decide +kernel
theorem dX1_read_5 : decode cX1_read 5 = .ok (.aload_n 0, 1) := by decide +kernel
theorem dX1_read_6 : decode cX1_read 6 = .ok (.sipush 400, 3) := by decide +kernel
theorem dX1_read_9 : decode cX1_read 9 = .ok (.invokevirtual 28, 3) := by decide +kernel
theorem dX1_read_12 : decode cX1_read 12 = .ok (.iconst 0, 1) := by decide +kernel
theorem dX1_read_13 : decode cX1_read 13 = .ok (.istore_n 2, 1) := by decide +kernel
theorem dX1_read_14 : decode cX1_read 14 = .ok (.iload_n 2, 1) := by decide +kernel
theorem dX1_read_15 : decode cX1_read 15 = .ok (.bipush 40, 2) := by decide +kernel
theorem dX1_read_17 : decode cX1_read 17 = .ok (.if_icmp .gt 48, 3) := by decide +kernel
theorem dX1_read_20 : decode cX1_read 20 = .ok (.aload_n 0, 1) := by decide +kernel
theorem dX1_read_21 : decode cX1_read 21 = .ok (.getfield 32, 3) := by decide +kernel
theorem dX1_read_24 : decode cX1_read 24 = .ok (.getfield 36, 3) := by decide +kernel
theorem dX1_read_27 : decode cX1_read 27 = .ok (.ifCond .eq 38, 3) := by decide +kernel
theorem dX1_read_30 : decode cX1_read 30 = .ok (.aload_n 0, 1) := by decide +kernel
theorem dX1_read_31 : decode cX1_read 31 = .ok (.aload_n 1, 1) := by decide +kernel
theorem dX1_read_32 : decode cX1_read 32 = .ok (.invokevirtual 41, 3) := by decide +kernel
theorem dX1_read_35 : decode cX1_read 35 = .ok (.ifCond .eq 12, 3) := by decide +kernel
theorem dX1_read_38 : decode cX1_read 38 = .ok (.aload_n 0, 1) := by decide +kernel
theorem dX1_read_39 : decode cX1_read 39 = .ok (.bipush 59, 2) := by decide +kernel
theorem dX1_read_41 : decode cX1_read 41 = .ok (.invokevirtual 45, 3) := by decide +kernel
theorem dX1_read_44 : decode cX1_read 44 = .ok (.ifCond .ne 5, 3) := by decide +kernel
theorem dX1_read_47 : decode cX1_read 47 = .ok (.iconst 0, 1) := by decide +kernel
theorem dX1_read_48 : decode cX1_read 48 = .ok (.ireturn, 1) := by decide +kernel
theorem dX1_read_49 : decode cX1_read 49 = .ok (.aload_n 0, 1) := by decide +kernel
theorem dX1_read_50 : decode cX1_read 50 = .ok (.dup, 1) := by decide +kernel
theorem dX1_read_51 : decode cX1_read 51 = .ok (.getfield 24, 3) := by decide +kernel
theorem dX1_read_54 : decode cX1_read 54 = .ok (.iconst 1, 1) := by decide +kernel
theorem dX1_read_55 : decode cX1_read 55 = .ok (.iadd, 1) := by decide +kernel
theorem dX1_read_56 : decode cX1_read 56 = .ok (.putfield 24, 3) := by decide +kernel
theorem dX1_read_59 : decode cX1_read 59 = .ok (.iinc 2 1, 3) := by decide +kernel
theorem dX1_read_62 : decode cX1_read 62 = .ok (.goto (-48), 3) := by decide +kernel
theorem dX1_read_65 : decode cX1_read 65 = .ok (.iconst 1, 1) := by decide +kernel
theorem dX1_read_66 : decode cX1_read 66 = .ok (.ireturn, 1) := by decide +kernel
theorem dX1_readLine_0 : decode cX1_readLine 0 = .ok (.aload_n 0, 1) := by decide +kernel
theorem dX1_readLine_1 : decode cX1_readLine 1 = .ok (.getfield 32, 3) := by decide +kernel
theorem dX1_readLine_4 : decode cX1_readLine 4 = .ok (.getstatic 49, 3) := by decide +kernel
theorem dX1_readLine_7 : decode cX1_readLine 7 = .ok (.invokevirtual 55, 3) := by decide +kernel
theorem dX1_readLine_10 : decode cX1_readLine 10 = .ok (.istore_n 2, 1) := by decide +kernel
theorem dX1_readLine_11 : decode cX1_readLine 11 = .ok (.aload_n 0, 1) := by decide +kernel
theorem dX1_readLine_12 : decode cX1_readLine 12 = .ok (.getfield 32, 3) := by decide +kernel
theorem dX1_readLine_15 : decode cX1_readLine 15 = .ok (.getstatic 59, 3) := by decide +kernel
theorem dX1_readLine_18 : decode cX1_readLine 18 = .ok (.invokevirtual 55, 3) := by decide +kernel
theorem dX1_readLine_21 : decode cX1_readLine 21 = .ok (.istore_n 3, 1) := by decide +kernel
theorem dX1_readLine_22 : decode cX1_readLine 22 = .ok (.aload_n 0, 1) := by decide +kernel
theorem dX1_readLine_23 : decode cX1_readLine 23 = .ok (.getfield 32, 3) := by decide +kernel
theorem dX1_readLine_26 : decode cX1_readLine 26 = .ok (.getstatic 62, 3) := by decide +kernel
theorem dX1_readLine_29 : decode cX1_readLine 29 = .ok (.invokevirtual 55, 3) := by decide +kernel
theorem dX1_readLine_32 : decode cX1_readLine 32 = .ok (.istore 4, 2) := by decide +kernel
theorem dX1_readLine_34 : decode cX1_readLine 34 = .ok (.iload_n 2, 1) := by decide +kernel
theorem dX1_readLine_35 : decode cX1_readLine 35 = .ok (.ifCond .ne 22, 3) := by decide +kernel
theorem dX1_readLine_38 : decode cX1_readLine 38 = .ok (.iload_n 3, 1) := by decide +kernel
theorem dX1_readLine_39 : decode cX1_readLine 39 = .ok (.ifCond .ne 18, 3) := by decide +kernel
theorem dX1_readLine_42 : decode cX1_readLine 42 = .ok (.iload 4, 2) := by decide +kernel
theorem dX1_readLine_44 : decode cX1_readLine 44 = .ok (.ifCond .ne 13, 3) := by decide +kernel
theorem dX1_readLine_47 : decode cX1_readLine 47 = .ok (.aload_n 0, 1) := by decide +kernel
theorem dX1_readLine_48 : decode cX1_readLine 48 = .ok (.aload_n 1, 1) := by decide +kernel
theorem dX1_readLine_49 : decode cX1_readLine 49 = .ok (.invokevirtual 65, 3) := by decide +kernel
theorem dX1_readLine_52 : decode cX1_readLine 52 = .ok (.ifCond .ne 5, 3) := by decide +kernel
theorem dX1_readLine_55 : decode cX1_readLine 55 = .ok (.iconst 0, 1) := by decide +kernel
theorem dX1_readLine_56 : decode cX1_readLine 56 = .ok (.ireturn, 1) := by decide +kernel
theorem dX1_readLine_57 : decode cX1_readLine 57 = .ok (.aload_n 0, 1) := by decide +kernel
theorem dX1_readLine_58 : decode cX1_readLine 58 = .ok (.getfield 24, 3) := by decide +kernel
theorem dX1_readLine_61 : decode cX1_readLine 61 = .ok (.bipush 40, 2) := by decide +kernel
theorem dX1_readLine_63 : decode cX1_readLine 63 = .ok (.if_icmp .lt 9, 3) := by decide +kernel
theorem dX1_readLine_66 : decode cX1_readLine 66 = .ok (.aload_n 0, 1) := by decide +kernel
theorem dX1_readLine_67 : decode cX1_readLine 67 = .ok (.iconst 4, 1) := by decide +kernel
theorem dX1_readLine_68 : decode cX1_readLine 68 = .ok (.invokevirtual 68, 3) := by decide +kernel
theorem dX1_readLine_71 : decode cX1_readLine 71 = .ok (.ireturn, 1) := by decide +kernel
theorem dX1_readLine_72 : decode cX1_readLine 72 = .ok (.aload_n 0, 1) := by decide +kernel
theorem dX1_readLine_73 : decode cX1_readLine 73 = .ok (.getfield 72, 3) := by decide +kernel
theorem dX1_readLine_76 : decode cX1_readLine 76 = .ok (.istore 5, 2) := by decide +kernel
theorem dX1_readLine_78 : decode cX1_readLine 78 = .ok (.aload_n 0, 1) := by decide +kernel
theorem dX1_readLine_79 : decode cX1_readLine 79 = .ok (.getfield 32, 3) := by decide +kernel
theorem dX1_readLine_82 : decode cX1_readLine 82 = .ok (.invokevirtual 75, 3) := by decide +kernel
theorem dX1_readLine_85 : decode cX1_readLine 85 = .ok (.iload_n 2, 1) := by decide +kernel
theorem dX1_readLine_86 : decode cX1_readLine 86 = .ok (.ifCond .eq 9, 3) := by decide +kernel
theorem dX1_readLine_89 : decode cX1_readLine 89 = .ok (.aload_n 0, 1) := by decide +kernel
theorem dX1_readLine_90 : decode cX1_readLine 90 = .ok (.aload_n 1, 1) := by decide +kernel
theorem dX1_readLine_91 : decode cX1_readLine 91 = .ok (.invokevirtual 79, 3) := by decide +kernel
theorem dX1_readLine_94 : decode cX1_readLine 94 = .ok (.ireturn, 1) := by decide +kernel
theorem dX1_readLine_95 : decode cX1_readLine 95 = .ok (.iload_n 3, 1) := by decide +kernel
theorem dX1_readLine_96 : decode cX1_readLine 96 = .ok (.ifCond .eq 9, 3) := by decide +kernel
theorem dX1_readLine_99 : decode cX1_readLine 99 = .ok (.aload_n 0, 1) := by decide +kernel
theorem dX1_readLine_100 : decode cX1_readLine 100 = .ok (.aload_n 1, 1) := by decide +kernel
theorem dX1_readLine_101 : decode cX1_readLine 101 = .ok (.invokevirtual 82, 3) := by decide +kernel
theorem dX1_readLine_104 : decode cX1_readLine 104 = .ok (.ireturn, 1) := by decide +kernel
theorem dX1_readLine_105 : decode cX1_readLine 105 = .ok (.iload 4, 2) := by decide +kernel
theorem dX1_readLine_107 : decode cX1_readLine 107 = .ok (.ifCond .eq 11, 3) := by decide +kernel
theorem dX1_readLine_110 : decode cX1_readLine 110 = .ok (.aload_n 0, 1) := by decide +kernel
theorem dX1_readLine_111 : decode cX1_readLine 111 = .ok (.aload_n 1, 1) := by decide +kernel
theorem dX1_readLine_112 : decode cX1_readLine 112 = .ok (.invokevirtual 85, 3) := by decide +kernel
theorem dX1_readLine_115 : decode cX1_readLine 115 = .ok (.goto 10, 3) := by decide +kernel
theorem dX1_readLine_118 : decode cX1_readLine 118 = .ok (.aload_n 0, 1) := by decide +kernel
theorem dX1_readLine_119 : decode cX1_readLine 119 = .ok (.aload_n 1, 1) := by decide +kernel
theorem dX1_readLine_120 : decode cX1_readLine 120 = .ok (.iload 5, 2) := by decide +kernel
theorem dX1_readLine_122 : decode cX1_readLine 122 = .ok (.invokevirtual 88, 3) := by decide +kernel
theorem dX1_readLine_125 : decode cX1_readLine 125 = .ok (.ireturn, 1) := by decide +kernel
theorem dX1_keep_0 : decode cX1_keep 0 = .ok (.aload_n 0, 1) := by decide +kernel
theorem dX1_keep_1 : decode cX1_keep 1 = .ok (.getfield 9, 3) := by decide +kernel
theorem dX1_keep_4 : decode cX1_keep 4 = .ok (.aload_n 0, 1) := by decide +kernel
theorem dX1_keep_5 : decode cX1_keep 5 = .ok (.getfield 24, 3) := by decide +kernel
theorem dX1_keep_8 : decode cX1_keep 8 = .ok (.iload_n 1, 1) := by decide +kernel
theorem dX1_keep_9 : decode cX1_keep 9 = .ok (.iastore, 1) := by decide +kernel
theorem dX1_keep_10 : decode cX1_keep 10 = .ok (.aload_n 0, 1) := by decide +kernel
theorem dX1_keep_11 : decode cX1_keep 11 = .ok (.getfield 15, 3) := by decide +kernel
theorem dX1_keep_14 : decode cX1_keep 14 = .ok (.aload_n 0, 1) := by decide +kernel
theorem dX1_keep_15 : decode cX1_keep 15 = .ok (.getfield 24, 3) := by decide +kernel
theorem dX1_keep_18 : decode cX1_keep 18 = .ok (.iload_n 2, 1) := by decide +kernel
theorem dX1_keep_19 : decode cX1_keep 19 = .ok (.iastore, 1) := by decide +kernel
theorem dX1_keep_20 : decode cX1_keep 20 = .ok (.aload_n 0, 1) := by decide +kernel
theorem dX1_keep_21 : decode cX1_keep 21 = .ok (.getfield 18, 3) := by decide +kernel
theorem dX1_keep_24 : decode cX1_keep 24 = .ok (.aload_n 0, 1) := by decide +kernel
theorem dX1_keep_25 : decode cX1_keep 25 = .ok (.getfield 24, 3) := by decide +kernel
theorem dX1_keep_28 : decode cX1_keep 28 = .ok (.iload_n 3, 1) := by decide +kernel
theorem dX1_keep_29 : decode cX1_keep 29 = .ok (.iastore, 1) := by decide +kernel
theorem dX1_keep_30 : decode cX1_keep 30 = .ok (.aload_n 0, 1) := by decide +kernel
theorem dX1_keep_31 : decode cX1_keep 31 = .ok (.getfield 21, 3) := by decide +kernel
theorem dX1_keep_34 : decode cX1_keep 34 = .ok (.aload_n 0, 1) := by decide +kernel
theorem dX1_keep_35 : decode cX1_keep 35 = .ok (.getfield 24, 3) := by decide +kernel
theorem dX1_keep_38 : decode cX1_keep 38 = .ok (.iload 4, 2) := by decide +kernel
theorem dX1_keep_40 : decode cX1_keep 40 = .ok (.iastore, 1) := by decide +kernel
theorem dX1_keep_41 : decode cX1_keep 41 = .ok (.iconst 1, 1) := by decide +kernel
theorem dX1_keep_42 : decode cX1_keep 42 = .ok (.ireturn, 1) := by decide +kernel
theorem dX1_readCrossing_0 : decode cX1_readCrossing 0 = .ok (.iconst 0, 1) := by decide +kernel
theorem dX1_readCrossing_1 : decode cX1_readCrossing 1 = .ok (.istore_n 2, 1) := by decide +kernel
theorem dX1_readCrossing_2 : decode cX1_readCrossing 2 = .ok (.iconst 0, 1) := by decide +kernel
theorem dX1_readCrossing_3 : decode cX1_readCrossing 3 = .ok (.istore_n 3, 1) := by decide +kernel
theorem dX1_readCrossing_4 : decode cX1_readCrossing 4 = .ok (.iload_n 3, 1) := by decide +kernel
theorem dX1_readCrossing_5 : decode cX1_readCrossing 5 = .ok (.bipush 10, 2) := by decide +kernel
theorem dX1_readCrossing_7 : decode cX1_readCrossing 7 = .ok (.if_icmp .gt 69, 3) := by decide +kernel
theorem dX1_readCrossing_10 : decode cX1_readCrossing 10 = .ok (.iload_n 3, 1) := by decide +kernel
theorem dX1_readCrossing_11 : decode cX1_readCrossing 11 = .ok (.ifCond .eq 15, 3) := by decide +kernel
theorem dX1_readCrossing_14 : decode cX1_readCrossing 14 = .ok (.aload_n 0, 1) := by decide +kernel
theorem dX1_readCrossing_15 : decode cX1_readCrossing 15 = .ok (.getfield 32, 3) := by decide +kernel
theorem dX1_readCrossing_18 : decode cX1_readCrossing 18 = .ok (.bipush 59, 2) := by decide +kernel
theorem dX1_readCrossing_20 : decode cX1_readCrossing 20 = .ok (.invokevirtual 92, 3) := by decide +kernel
theorem dX1_readCrossing_23 : decode cX1_readCrossing 23 = .ok (.ifCond .ne 53, 3) := by decide +kernel
theorem dX1_readCrossing_26 : decode cX1_readCrossing 26 = .ok (.aload_n 0, 1) := by decide +kernel
theorem dX1_readCrossing_27 : decode cX1_readCrossing 27 = .ok (.aload_n 1, 1) := by decide +kernel
theorem dX1_readCrossing_28 : decode cX1_readCrossing 28 = .ok (.invokevirtual 65, 3) := by decide +kernel
theorem dX1_readCrossing_31 : decode cX1_readCrossing 31 = .ok (.ifCond .ne 5, 3) := by decide +kernel
theorem dX1_readCrossing_34 : decode cX1_readCrossing 34 = .ok (.iconst 0, 1) := by decide +kernel
theorem dX1_readCrossing_35 : decode cX1_readCrossing 35 = .ok (.ireturn, 1) := by decide +kernel
theorem dX1_readCrossing_36 : decode cX1_readCrossing 36 = .ok (.iload_n 2, 1) := by decide +kernel
theorem dX1_readCrossing_37 : decode cX1_readCrossing 37 = .ok (.aload_n 0, 1) := by decide +kernel
theorem dX1_readCrossing_38 : decode cX1_readCrossing 38 = .ok (.getfield 72, 3) := by decide +kernel
theorem dX1_readCrossing_41 : decode cX1_readCrossing 41 = .ok (.invokestatic 95, 3) := by decide +kernel
theorem dX1_readCrossing_44 : decode cX1_readCrossing 44 = .ok (.iconst 1, 1) := by decide +kernel
theorem dX1_readCrossing_45 : decode cX1_readCrossing 45 = .ok (.if_icmp .ne 9, 3) := by decide +kernel
theorem dX1_readCrossing_48 : decode cX1_readCrossing 48 = .ok (.aload_n 0, 1) := by decide +kernel
theorem dX1_readCrossing_49 : decode cX1_readCrossing 49 = .ok (.iconst 3, 1) := by decide +kernel
theorem dX1_readCrossing_50 : decode cX1_readCrossing 50 = .ok (.invokevirtual 68, 3) := by decide +kernel
theorem dX1_readCrossing_53 : decode cX1_readCrossing 53 = .ok (.ireturn, 1) := by decide +kernel
theorem dX1_readCrossing_54 : decode cX1_readCrossing 54 = .ok (.iload_n 2, 1) := by decide +kernel
theorem dX1_readCrossing_55 : decode cX1_readCrossing 55 = .ok (.iconst 1, 1) := by decide +kernel
theorem dX1_readCrossing_56 : decode cX1_readCrossing 56 = .ok (.aload_n 0, 1) := by decide +kernel
theorem dX1_readCrossing_57 : decode cX1_readCrossing 57 = .ok (.getfield 72, 3) := by decide +kernel
theorem dX1_readCrossing_60 : decode cX1_readCrossing 60 = .ok (.ishl, 1) := by decide +kernel
theorem dX1_readCrossing_61 : decode cX1_readCrossing 61 = .ok (.ior, 1) := by decide +kernel
theorem dX1_readCrossing_62 : decode cX1_readCrossing 62 = .ok (.istore_n 2, 1) := by decide +kernel
theorem dX1_readCrossing_63 : decode cX1_readCrossing 63 = .ok (.aload_n 0, 1) := by decide +kernel
theorem dX1_readCrossing_64 : decode cX1_readCrossing 64 = .ok (.getfield 32, 3) := by decide +kernel
theorem dX1_readCrossing_67 : decode cX1_readCrossing 67 = .ok (.invokevirtual 75, 3) := by decide +kernel
theorem dX1_readCrossing_70 : decode cX1_readCrossing 70 = .ok (.iinc 3 1, 3) := by decide +kernel
theorem dX1_readCrossing_73 : decode cX1_readCrossing 73 = .ok (.goto (-69), 3) := by decide +kernel
theorem dX1_readCrossing_76 : decode cX1_readCrossing 76 = .ok (.aload_n 0, 1) := by decide +kernel
theorem dX1_readCrossing_77 : decode cX1_readCrossing 77 = .ok (.iconst 0, 1) := by decide +kernel
theorem dX1_readCrossing_78 : decode cX1_readCrossing 78 = .ok (.iload_n 2, 1) := by decide +kernel
theorem dX1_readCrossing_79 : decode cX1_readCrossing 79 = .ok (.iconst (-1), 1) := by decide +kernel
theorem dX1_readCrossing_80 : decode cX1_readCrossing 80 = .ok (.iconst 0, 1) := by decide +kernel
theorem dX1_readCrossing_81 : decode cX1_readCrossing 81 = .ok (.invokevirtual 99, 3) := by decide +kernel
theorem dX1_readCrossing_84 : decode cX1_readCrossing 84 = .ok (.ireturn, 1) := by decide +kernel
theorem dX1_readRaising_0 : decode cX1_readRaising 0 = .ok (.aload_n 0, 1) := by decide +kernel
theorem dX1_readRaising_1 : decode cX1_readRaising 1 = .ok (.aload_n 1, 1) := by decide +kernel
theorem dX1_readRaising_2 : decode cX1_readRaising 2 = .ok (.invokevirtual 103, 3) := by decide +kernel
theorem dX1_readRaising_5 : decode cX1_readRaising 5 = .ok (.ifCond .ne 5, 3) := by decide +kernel
theorem dX1_readRaising_8 : decode cX1_readRaising 8 = .ok (.iconst 0, 1) := by decide +kernel
theorem dX1_readRaising_9 : decode cX1_readRaising 9 = .ok (.ireturn, 1) := by decide +kernel
theorem dX1_readRaising_10 : decode cX1_readRaising 10 = .ok (.aload_n 0, 1) := by decide +kernel
theorem dX1_readRaising_11 : decode cX1_readRaising 11 = .ok (.getfield 32, 3) := by decide +kernel
theorem dX1_readRaising_14 : decode cX1_readRaising 14 = .ok (.invokevirtual 75, 3) := by decide +kernel
theorem dX1_readRaising_17 : decode cX1_readRaising 17 = .ok (.aload_n 0, 1) := by decide +kernel
theorem dX1_readRaising_18 : decode cX1_readRaising 18 = .ok (.iconst 1, 1) := by decide +kernel
theorem dX1_readRaising_19 : decode cX1_readRaising 19 = .ok (.iconst (-1), 1) := by decide +kernel
theorem dX1_readRaising_20 : decode cX1_readRaising 20 = .ok (.aload_n 0, 1) := by decide +kernel
theorem dX1_readRaising_21 : decode cX1_readRaising 21 = .ok (.getfield 72, 3) := by decide +kernel
theorem dX1_readRaising_24 : decode cX1_readRaising 24 = .ok (.iconst 0, 1) := by decide +kernel
theorem dX1_readRaising_25 : decode cX1_readRaising 25 = .ok (.invokevirtual 99, 3) := by decide +kernel
theorem dX1_readRaising_28 : decode cX1_readRaising 28 = .ok (.ireturn, 1) := by decide +kernel
theorem dX1_readHiring_0 : decode cX1_readHiring 0 = .ok (.aload_n 0, 1) := by decide +kernel
theorem dX1_readHiring_1 : decode cX1_readHiring 1 = .ok (.aload_n 1, 1) := by decide +kernel
theorem dX1_readHiring_2 : decode cX1_readHiring 2 = .ok (.invokevirtual 65, 3) := by decide +kernel
theorem dX1_readHiring_5 : decode cX1_readHiring 5 = .ok (.ifCond .ne 5, 3) := by decide +kernel
theorem dX1_readHiring_8 : decode cX1_readHiring 8 = .ok (.iconst 0, 1) := by decide +kernel
theorem dX1_readHiring_9 : decode cX1_readHiring 9 = .ok (.ireturn, 1) := by decide +kernel
theorem dX1_readHiring_10 : decode cX1_readHiring 10 = .ok (.aload_n 0, 1) := by decide +kernel
theorem dX1_readHiring_11 : decode cX1_readHiring 11 = .ok (.getfield 32, 3) := by decide +kernel
theorem dX1_readHiring_14 : decode cX1_readHiring 14 = .ok (.invokevirtual 75, 3) := by decide +kernel
theorem dX1_readHiring_17 : decode cX1_readHiring 17 = .ok (.aload_n 0, 1) := by decide +kernel
theorem dX1_readHiring_18 : decode cX1_readHiring 18 = .ok (.iconst 2, 1) := by decide +kernel
theorem dX1_readHiring_19 : decode cX1_readHiring 19 = .ok (.aload_n 0, 1) := by decide +kernel
theorem dX1_readHiring_20 : decode cX1_readHiring 20 = .ok (.getfield 72, 3) := by decide +kernel
theorem dX1_readHiring_23 : decode cX1_readHiring 23 = .ok (.iconst (-1), 1) := by decide +kernel
theorem dX1_readHiring_24 : decode cX1_readHiring 24 = .ok (.iconst 0, 1) := by decide +kernel
theorem dX1_readHiring_25 : decode cX1_readHiring 25 = .ok (.invokevirtual 99, 3) := by decide +kernel
theorem dX1_readHiring_28 : decode cX1_readHiring 28 = .ok (.ireturn, 1) := by decide +kernel
theorem dX1_readSpeech_0 : decode cX1_readSpeech 0 = .ok (.aload_n 0, 1) := by decide +kernel
theorem dX1_readSpeech_1 : decode cX1_readSpeech 1 = .ok (.getfield 32, 3) := by decide +kernel
theorem dX1_readSpeech_4 : decode cX1_readSpeech 4 = .ok (.getstatic 106, 3) := by decide +kernel
theorem dX1_readSpeech_7 : decode cX1_readSpeech 7 = .ok (.invokevirtual 55, 3) := by decide +kernel
theorem dX1_readSpeech_10 : decode cX1_readSpeech 10 = .ok (.istore_n 3, 1) := by decide +kernel
theorem dX1_readSpeech_11 : decode cX1_readSpeech 11 = .ok (.iload_n 3, 1) := by decide +kernel
theorem dX1_readSpeech_12 : decode cX1_readSpeech 12 = .ok (.ifCond .ne 22, 3) := by decide +kernel
theorem dX1_readSpeech_15 : decode cX1_readSpeech 15 = .ok (.aload_n 0, 1) := by decide +kernel
theorem dX1_readSpeech_16 : decode cX1_readSpeech 16 = .ok (.getfield 32, 3) := by decide +kernel
theorem dX1_readSpeech_19 : decode cX1_readSpeech 19 = .ok (.getstatic 109, 3) := by decide +kernel
theorem dX1_readSpeech_22 : decode cX1_readSpeech 22 = .ok (.invokevirtual 55, 3) := by decide +kernel
theorem dX1_readSpeech_25 : decode cX1_readSpeech 25 = .ok (.ifCond .ne 9, 3) := by decide +kernel
theorem dX1_readSpeech_28 : decode cX1_readSpeech 28 = .ok (.aload_n 0, 1) := by decide +kernel
theorem dX1_readSpeech_29 : decode cX1_readSpeech 29 = .ok (.iconst 1, 1) := by decide +kernel
theorem dX1_readSpeech_30 : decode cX1_readSpeech 30 = .ok (.invokevirtual 68, 3) := by decide +kernel
theorem dX1_readSpeech_33 : decode cX1_readSpeech 33 = .ok (.ireturn, 1) := by decide +kernel
theorem dX1_readSpeech_34 : decode cX1_readSpeech 34 = .ok (.aload_n 0, 1) := by decide +kernel
theorem dX1_readSpeech_35 : decode cX1_readSpeech 35 = .ok (.getfield 32, 3) := by decide +kernel
theorem dX1_readSpeech_38 : decode cX1_readSpeech 38 = .ok (.invokevirtual 75, 3) := by decide +kernel
theorem dX1_readSpeech_41 : decode cX1_readSpeech 41 = .ok (.aload_n 0, 1) := by decide +kernel
theorem dX1_readSpeech_42 : decode cX1_readSpeech 42 = .ok (.aload_n 1, 1) := by decide +kernel
theorem dX1_readSpeech_43 : decode cX1_readSpeech 43 = .ok (.invokevirtual 103, 3) := by decide +kernel
theorem dX1_readSpeech_46 : decode cX1_readSpeech 46 = .ok (.ifCond .ne 5, 3) := by decide +kernel
theorem dX1_readSpeech_49 : decode cX1_readSpeech 49 = .ok (.iconst 0, 1) := by decide +kernel
theorem dX1_readSpeech_50 : decode cX1_readSpeech 50 = .ok (.ireturn, 1) := by decide +kernel
theorem dX1_readSpeech_51 : decode cX1_readSpeech 51 = .ok (.aload_n 0, 1) := by decide +kernel
theorem dX1_readSpeech_52 : decode cX1_readSpeech 52 = .ok (.getfield 72, 3) := by decide +kernel
theorem dX1_readSpeech_55 : decode cX1_readSpeech 55 = .ok (.istore 4, 2) := by decide +kernel
theorem dX1_readSpeech_57 : decode cX1_readSpeech 57 = .ok (.aload_n 0, 1) := by decide +kernel
theorem dX1_readSpeech_58 : decode cX1_readSpeech 58 = .ok (.getfield 32, 3) := by decide +kernel
theorem dX1_readSpeech_61 : decode cX1_readSpeech 61 = .ok (.invokevirtual 75, 3) := by decide +kernel
theorem dX1_readSpeech_64 : decode cX1_readSpeech 64 = .ok (.aload_n 0, 1) := by decide +kernel
theorem dX1_readSpeech_65 : decode cX1_readSpeech 65 = .ok (.invokevirtual 112, 3) := by decide +kernel
theorem dX1_readSpeech_68 : decode cX1_readSpeech 68 = .ok (.ifCond .ne 5, 3) := by decide +kernel
theorem dX1_readSpeech_71 : decode cX1_readSpeech 71 = .ok (.iconst 0, 1) := by decide +kernel
theorem dX1_readSpeech_72 : decode cX1_readSpeech 72 = .ok (.ireturn, 1) := by decide +kernel
theorem dX1_readSpeech_73 : decode cX1_readSpeech 73 = .ok (.aload_n 0, 1) := by decide +kernel
theorem dX1_readSpeech_74 : decode cX1_readSpeech 74 = .ok (.getfield 72, 3) := by decide +kernel
theorem dX1_readSpeech_77 : decode cX1_readSpeech 77 = .ok (.istore 5, 2) := by decide +kernel
theorem dX1_readSpeech_79 : decode cX1_readSpeech 79 = .ok (.aload_n 0, 1) := by decide +kernel
theorem dX1_readSpeech_80 : decode cX1_readSpeech 80 = .ok (.iconst 0, 1) := by decide +kernel
theorem dX1_readSpeech_81 : decode cX1_readSpeech 81 = .ok (.bipush 9, 2) := by decide +kernel
theorem dX1_readSpeech_83 : decode cX1_readSpeech 83 = .ok (.invokevirtual 116, 3) := by decide +kernel
theorem dX1_readSpeech_86 : decode cX1_readSpeech 86 = .ok (.ifCond .ne 5, 3) := by decide +kernel
theorem dX1_readSpeech_89 : decode cX1_readSpeech 89 = .ok (.iconst 0, 1) := by decide +kernel
theorem dX1_readSpeech_90 : decode cX1_readSpeech 90 = .ok (.ireturn, 1) := by decide +kernel
theorem dX1_readSpeech_91 : decode cX1_readSpeech 91 = .ok (.aload_n 0, 1) := by decide +kernel
theorem dX1_readSpeech_92 : decode cX1_readSpeech 92 = .ok (.iload_n 3, 1) := by decide +kernel
theorem dX1_readSpeech_93 : decode cX1_readSpeech 93 = .ok (.ifCond .eq 7, 3) := by decide +kernel
theorem dX1_readSpeech_96 : decode cX1_readSpeech 96 = .ok (.iconst 3, 1) := by decide +kernel
theorem dX1_readSpeech_97 : decode cX1_readSpeech 97 = .ok (.goto 4, 3) := by decide +kernel
theorem dX1_readSpeech_100 : decode cX1_readSpeech 100 = .ok (.iconst 4, 1) := by decide +kernel
theorem dX1_readSpeech_101 : decode cX1_readSpeech 101 = .ok (.iload_n 2, 1) := by decide +kernel
theorem dX1_readSpeech_102 : decode cX1_readSpeech 102 = .ok (.iload 4, 2) := by decide +kernel
theorem dX1_readSpeech_104 : decode cX1_readSpeech 104 = .ok (.iload 5, 2) := by decide +kernel
theorem dX1_readSpeech_106 : decode cX1_readSpeech 106 = .ok (.aload_n 0, 1) := by decide +kernel
theorem dX1_readSpeech_107 : decode cX1_readSpeech 107 = .ok (.getfield 72, 3) := by decide +kernel
theorem dX1_readSpeech_110 : decode cX1_readSpeech 110 = .ok (.imul, 1) := by decide +kernel
theorem dX1_readSpeech_111 : decode cX1_readSpeech 111 = .ok (.invokevirtual 99, 3) := by decide +kernel
theorem dX1_readSpeech_114 : decode cX1_readSpeech 114 = .ok (.ireturn, 1) := by decide +kernel
theorem dX2_init_0 : decode cX2_init 0 = .ok (.aload_n 0, 1) := by decide +kernel
theorem dX2_init_1 : decode cX2_init 1 = .ok (.invokespecial 3, 3) := by decide +kernel
theorem dX2_init_4 : decode cX2_init 4 = .ok (.aload_n 0, 1) := by decide +kernel
theorem dX2_init_5 : decode cX2_init 5 = .ok (.bipush 10, 2) := by decide +kernel
theorem dX2_init_7 : decode cX2_init 7 = .ok (.newarray .int, 2) := by decide +kernel
theorem dX2_init_9 : decode cX2_init 9 = .ok (.putfield 9, 3) := by decide +kernel
theorem dX2_init_12 : decode cX2_init 12 = .ok (.aload_n 0, 1) := by decide +kernel
theorem dX2_init_13 : decode cX2_init 13 = .ok (.bipush 10, 2) := by decide +kernel
theorem dX2_init_15 : decode cX2_init 15 = .ok (.newarray .int, 2) := by decide +kernel
theorem dX2_init_17 : decode cX2_init 17 = .ok (.putfield 15, 3) := by decide +kernel
theorem dX2_init_20 : decode cX2_init 20 = .ok (.aload_n 0, 1) := by decide +kernel
theorem dX2_init_21 : decode cX2_init 21 = .ok (.bipush 10, 2) := by decide +kernel
theorem dX2_init_23 : decode cX2_init 23 = .ok (.newarray .int, 2) := by decide +kernel
theorem dX2_init_25 : decode cX2_init 25 = .ok (.putfield 18, 3) := by decide +kernel
theorem dX2_init_28 : decode cX2_init 28 = .ok (.aload_n 0, 1) := by decide +kernel
theorem dX2_init_29 : decode cX2_init 29 = .ok (.bipush 90, 2) := by decide +kernel
theorem dX2_init_31 : decode cX2_init 31 = .ok (.newarray .int, 2) := by decide +kernel
theorem dX2_init_33 : decode cX2_init 33 = .ok (.putfield 21, 3) := by decide +kernel
theorem dX2_init_36 : decode cX2_init 36 = .ok (.aload_n 0, 1) := by decide +kernel
theorem dX2_init_37 : decode cX2_init 37 = .ok (.bipush 9, 2) := by decide +kernel
theorem dX2_init_39 : decode cX2_init 39 = .ok (.newarray .long, 2) := by decide +kernel
theorem dX2_init_41 : decode cX2_init 41 = .ok (.putfield 24, 3) := by decide +kernel
theorem dX2_init_44 : decode cX2_init 44 = .ok (.aload_n 0, 1) := by decide +kernel
theorem dX2_init_45 : decode cX2_init 45 = .ok (.bipush 10, 2) := by decide +kernel
theorem dX2_init_47 : decode cX2_init 47 = .ok (.newarray .long, 2) := by decide +kernel
theorem dX2_init_49 : decode cX2_init 49 = .ok (.putfield 28, 3) := by decide +kernel
theorem dX2_init_52 : decode cX2_init 52 = .ok (.aload_n 0, 1) := by decide +kernel
theorem dX2_init_53 : decode cX2_init 53 = .ok (.invokevirtual 31, 3) := by decide +kernel
theorem dX2_init_56 : decode cX2_init 56 = .ok (.return_, 1) := by decide +kernel
theorem dX2_clear_0 : decode cX2_clear 0 = .ok (.aload_n 0, 1) := by decide +kernel
theorem dX2_clear_1 : decode cX2_clear 1 = .ok (.iconst 4, 1) := by decide +kernel
theorem dX2_clear_2 : decode cX2_clear 2 = .ok (.putfield 34, 3) := by decide +kernel
theorem dX2_clear_5 : decode cX2_clear 5 = .ok (.aload_n 0, 1) := by decide +kernel
theorem dX2_clear_6 : decode cX2_clear 6 = .ok (.iconst 0, 1) := by decide +kernel
theorem dX2_clear_7 : decode cX2_clear 7 = .ok (.putfield 38, 3) := by decide +kernel
theorem dX2_clear_10 : decode cX2_clear 10 = .ok (.aload_n 0, 1) := by decide +kernel
theorem dX2_clear_11 : decode cX2_clear 11 = .ok (.iconst 0, 1) := by decide +kernel
theorem dX2_clear_12 : decode cX2_clear 12 = .ok (.putfield 41, 3) := by decide +kernel
theorem dX2_clear_15 : decode cX2_clear 15 = .ok (.aload_n 0, 1) := by decide +kernel
theorem dX2_clear_16 : decode cX2_clear 16 = .ok (.iconst 0, 1) := by decide +kernel
theorem dX2_clear_17 : decode cX2_clear 17 = .ok (.putfield 44, 3) := by decide +kernel
theorem dX2_clear_20 : decode cX2_clear 20 = .ok (.aload_n 0, 1) := by decide +kernel
theorem dX2_clear_21 : decode cX2_clear 21 = .ok (.iconst 0, 1) := by decide +kernel
theorem dX2_clear_22 : decode cX2_clear 22 = .ok (.putfield 47, 3) := by decide +kernel
theorem dX2_clear_25 : decode cX2_clear 25 = .ok (.aload_n 0, 1) := by decide +kernel
theorem dX2_clear_26 : decode cX2_clear 26 = .ok (.getfield 15, 3) := by decide +kernel
theorem dX2_clear_29 : decode cX2_clear 29 = .ok (.iconst (-1), 1) := by decide +kernel
theorem dX2_clear_30 : decode cX2_clear 30 = .ok (.invokestatic 50, 3) := by decide +kernel
theorem dX2_clear_33 : decode cX2_clear 33 = .ok (.aload_n 0, 1) := by decide +kernel
theorem dX2_clear_34 : decode cX2_clear 34 = .ok (.getfield 18, 3) := by decide +kernel
theorem dX2_clear_37 : decode cX2_clear 37 = .ok (.iconst 0, 1) := by decide +kernel
theorem dX2_clear_38 : decode cX2_clear 38 = .ok (.invokestatic 50, 3) := by decide +kernel
theorem dX2_clear_41 : decode cX2_clear 41 = .ok (.aload_n 0, 1) := by decide +kernel
theorem dX2_clear_42 : decode cX2_clear 42 = .ok (.getfield 21, 3) := by decide +kernel
theorem dX2_clear_45 : decode cX2_clear 45 = .ok (.iconst 0, 1) := by decide +kernel
theorem dX2_clear_46 : decode cX2_clear 46 = .ok (.invokestatic 50, 3) := by decide +kernel
theorem dX2_clear_49 : decode cX2_clear 49 = .ok (.return_, 1) := by decide +kernel
theorem dX2_copyFrom_0 : decode cX2_copyFrom 0 = .ok (.aload_n 0, 1) := by decide +kernel
theorem dX2_copyFrom_1 : decode cX2_copyFrom 1 = .ok (.aload_n 1, 1) := by decide +kernel
theorem dX2_copyFrom_2 : decode cX2_copyFrom 2 = .ok (.getfield 34, 3) := by decide +kernel
theorem dX2_copyFrom_5 : decode cX2_copyFrom 5 = .ok (.putfield 34, 3) := by decide +kernel
theorem dX2_copyFrom_8 : decode cX2_copyFrom 8 = .ok (.aload_n 0, 1) := by decide +kernel
theorem dX2_copyFrom_9 : decode cX2_copyFrom 9 = .ok (.aload_n 1, 1) := by decide +kernel
theorem dX2_copyFrom_10 : decode cX2_copyFrom 10 = .ok (.getfield 38, 3) := by decide +kernel
theorem dX2_copyFrom_13 : decode cX2_copyFrom 13 = .ok (.putfield 38, 3) := by decide +kernel
theorem dX2_copyFrom_16 : decode cX2_copyFrom 16 = .ok (.aload_n 0, 1) := by decide +kernel
theorem dX2_copyFrom_17 : decode cX2_copyFrom 17 = .ok (.aload_n 1, 1) := by decide +kernel
theorem dX2_copyFrom_18 : decode cX2_copyFrom 18 = .ok (.getfield 41, 3) := by decide +kernel
theorem dX2_copyFrom_21 : decode cX2_copyFrom 21 = .ok (.putfield 41, 3) := by decide +kernel
theorem dX2_copyFrom_24 : decode cX2_copyFrom 24 = .ok (.aload_n 0, 1) := by decide +kernel
theorem dX2_copyFrom_25 : decode cX2_copyFrom 25 = .ok (.aload_n 1, 1) := by decide +kernel
theorem dX2_copyFrom_26 : decode cX2_copyFrom 26 = .ok (.getfield 44, 3) := by decide +kernel
theorem dX2_copyFrom_29 : decode cX2_copyFrom 29 = .ok (.putfield 44, 3) := by decide +kernel
theorem dX2_copyFrom_32 : decode cX2_copyFrom 32 = .ok (.aload_n 0, 1) := by decide +kernel
theorem dX2_copyFrom_33 : decode cX2_copyFrom 33 = .ok (.aload_n 1, 1) := by decide +kernel
theorem dX2_copyFrom_34 : decode cX2_copyFrom 34 = .ok (.getfield 47, 3) := by decide +kernel
theorem dX2_copyFrom_37 : decode cX2_copyFrom 37 = .ok (.putfield 47, 3) := by decide +kernel
theorem dX2_copyFrom_40 : decode cX2_copyFrom 40 = .ok (.aload_n 1, 1) := by decide +kernel
theorem dX2_copyFrom_41 : decode cX2_copyFrom 41 = .ok (.getfield 9, 3) := by decide +kernel
theorem dX2_copyFrom_44 : decode cX2_copyFrom 44 = .ok (.iconst 0, 1) := by decide +kernel
theorem dX2_copyFrom_45 : decode cX2_copyFrom 45 = .ok (.aload_n 0, 1) := by decide +kernel
theorem dX2_copyFrom_46 : decode cX2_copyFrom 46 = .ok (.getfield 9, 3) := by decide +kernel
theorem dX2_copyFrom_49 : decode cX2_copyFrom 49 = .ok (.iconst 0, 1) := by decide +kernel
theorem dX2_copyFrom_50 : decode cX2_copyFrom 50 = .ok (.aload_n 0, 1) := by decide +kernel
theorem dX2_copyFrom_51 : decode cX2_copyFrom 51 = .ok (.getfield 9, 3) := by decide +kernel
theorem dX2_copyFrom_54 : decode cX2_copyFrom 54 = .ok (.arraylength, 1) := by decide +kernel
theorem dX2_copyFrom_55 : decode cX2_copyFrom 55 = .ok (.invokestatic 56, 3) := by decide +kernel
theorem dX2_copyFrom_58 : decode cX2_copyFrom 58 = .ok (.aload_n 1, 1) := by decide +kernel
theorem dX2_copyFrom_59 : decode cX2_copyFrom 59 = .ok (.getfield 15, 3) := by decide +kernel
theorem dX2_copyFrom_62 : decode cX2_copyFrom 62 = .ok (.iconst 0, 1) := by decide +kernel
theorem dX2_copyFrom_63 : decode cX2_copyFrom 63 = .ok (.aload_n 0, 1) := by decide +kernel
theorem dX2_copyFrom_64 : decode cX2_copyFrom 64 = .ok (.getfield 15, 3) := by decide +kernel
theorem dX2_copyFrom_67 : decode cX2_copyFrom 67 = .ok (.iconst 0, 1) := by decide +kernel
theorem dX2_copyFrom_68 : decode cX2_copyFrom 68 = .ok (.aload_n 0, 1) := by decide +kernel
theorem dX2_copyFrom_69 : decode cX2_copyFrom 69 = .ok (.getfield 15, 3) := by decide +kernel
theorem dX2_copyFrom_72 : decode cX2_copyFrom 72 = .ok (.arraylength, 1) := by decide +kernel
theorem dX2_copyFrom_73 : decode cX2_copyFrom 73 = .ok (.invokestatic 56, 3) := by decide +kernel
theorem dX2_copyFrom_76 : decode cX2_copyFrom 76 = .ok (.aload_n 1, 1) := by decide +kernel
theorem dX2_copyFrom_77 : decode cX2_copyFrom 77 = .ok (.getfield 18, 3) := by decide +kernel
theorem dX2_copyFrom_80 : decode cX2_copyFrom 80 = .ok (.iconst 0, 1) := by decide +kernel
theorem dX2_copyFrom_81 : decode cX2_copyFrom 81 = .ok (.aload_n 0, 1) := by decide +kernel
theorem dX2_copyFrom_82 : decode cX2_copyFrom 82 = .ok (.getfield 18, 3) := by decide +kernel
theorem dX2_copyFrom_85 : decode cX2_copyFrom 85 = .ok (.iconst 0, 1) := by decide +kernel
theorem dX2_copyFrom_86 : decode cX2_copyFrom 86 = .ok (.aload_n 0, 1) := by decide +kernel
theorem dX2_copyFrom_87 : decode cX2_copyFrom 87 = .ok (.getfield 18, 3) := by decide +kernel
theorem dX2_copyFrom_90 : decode cX2_copyFrom 90 = .ok (.arraylength, 1) := by decide +kernel
theorem dX2_copyFrom_91 : decode cX2_copyFrom 91 = .ok (.invokestatic 56, 3) := by decide +kernel
theorem dX2_copyFrom_94 : decode cX2_copyFrom 94 = .ok (.aload_n 1, 1) := by decide +kernel
theorem dX2_copyFrom_95 : decode cX2_copyFrom 95 = .ok (.getfield 21, 3) := by decide +kernel
theorem dX2_copyFrom_98 : decode cX2_copyFrom 98 = .ok (.iconst 0, 1) := by decide +kernel
theorem dX2_copyFrom_99 : decode cX2_copyFrom 99 = .ok (.aload_n 0, 1) := by decide +kernel
theorem dX2_copyFrom_100 : decode cX2_copyFrom 100 = .ok (.getfield 21, 3) := by decide +kernel
theorem dX2_copyFrom_103 : decode cX2_copyFrom 103 = .ok (.iconst 0, 1) := by decide +kernel
theorem dX2_copyFrom_104 : decode cX2_copyFrom 104 = .ok (.aload_n 0, 1) := by decide +kernel
theorem dX2_copyFrom_105 : decode cX2_copyFrom 105 = .ok (.getfield 21, 3) := by decide +kernel
theorem dX2_copyFrom_108 : decode cX2_copyFrom 108 = .ok (.arraylength, 1) := by decide +kernel
theorem dX2_copyFrom_109 : decode cX2_copyFrom 109 = .ok (.invokestatic 56, 3) := by decide +kernel
theorem dX2_copyFrom_112 : decode cX2_copyFrom 112 = .ok (.aload_n 1, 1) := by decide +kernel
theorem dX2_copyFrom_113 : decode cX2_copyFrom 113 = .ok (.getfield 24, 3) := by decide +kernel
theorem dX2_copyFrom_116 : decode cX2_copyFrom 116 = .ok (.iconst 0, 1) := by decide +kernel
theorem dX2_copyFrom_117 : decode cX2_copyFrom 117 = .ok (.aload_n 0, 1) := by decide +kernel
theorem dX2_copyFrom_118 : decode cX2_copyFrom 118 = .ok (.getfield 24, 3) := by decide +kernel
theorem dX2_copyFrom_121 : decode cX2_copyFrom 121 = .ok (.iconst 0, 1) := by decide +kernel
theorem dX2_copyFrom_122 : decode cX2_copyFrom 122 = .ok (.aload_n 0, 1) := by decide +kernel
theorem dX2_copyFrom_123 : decode cX2_copyFrom 123 = .ok (.getfield 24, 3) := by decide +kernel
theorem dX2_copyFrom_126 : decode cX2_copyFrom 126 = .ok (.arraylength, 1) := by decide +kernel
theorem dX2_copyFrom_127 : decode cX2_copyFrom 127 = .ok (.invokestatic 56, 3) := by decide +kernel
theorem dX2_copyFrom_130 : decode cX2_copyFrom 130 = .ok (.aload_n 1, 1) := by decide +kernel
theorem dX2_copyFrom_131 : decode cX2_copyFrom 131 = .ok (.getfield 28, 3) := by decide +kernel
theorem dX2_copyFrom_134 : decode cX2_copyFrom 134 = .ok (.iconst 0, 1) := by decide +kernel
theorem dX2_copyFrom_135 : decode cX2_copyFrom 135 = .ok (.aload_n 0, 1) := by decide +kernel
theorem dX2_copyFrom_136 : decode cX2_copyFrom 136 = .ok (.getfield 28, 3) := by decide +kernel
theorem dX2_copyFrom_139 : decode cX2_copyFrom 139 = .ok (.iconst 0, 1) := by decide +kernel
theorem dX2_copyFrom_140 : decode cX2_copyFrom 140 = .ok (.aload_n 0, 1) := by decide +kernel
theorem dX2_copyFrom_141 : decode cX2_copyFrom 141 = .ok (.getfield 28, 3) := by decide +kernel
theorem dX2_copyFrom_144 : decode cX2_copyFrom 144 = .ok (.arraylength, 1) := by decide +kernel
theorem dX2_copyFrom_145 : decode cX2_copyFrom 145 = .ok (.invokestatic 56, 3) := by decide +kernel
theorem dX2_copyFrom_148 : decode cX2_copyFrom 148 = .ok (.return_, 1) := by decide +kernel
theorem dX2_everyone_0 : decode cX2_everyone 0 = .ok (.iconst 1, 1) := by decide +kernel
theorem dX2_everyone_1 : decode cX2_everyone 1 = .ok (.aload_n 0, 1) := by decide +kernel
theorem dX2_everyone_2 : decode cX2_everyone 2 = .ok (.getfield 44, 3) := by decide +kernel
theorem dX2_everyone_5 : decode cX2_everyone 5 = .ok (.ishl, 1) := by decide +kernel
theorem dX2_everyone_6 : decode cX2_everyone 6 = .ok (.iconst 1, 1) := by decide +kernel
theorem dX2_everyone_7 : decode cX2_everyone 7 = .ok (.isub, 1) := by decide +kernel
theorem dX2_everyone_8 : decode cX2_everyone 8 = .ok (.ireturn, 1) := by decide +kernel
theorem dX2_askNamed_0 : decode cX2_askNamed 0 = .ok (.iconst 0, 1) := by decide +kernel
theorem dX2_askNamed_1 : decode cX2_askNamed 1 = .ok (.istore_n 3, 1) := by decide +kernel
theorem dX2_askNamed_2 : decode cX2_askNamed 2 = .ok (.iload_n 3, 1) := by decide +kernel
theorem dX2_askNamed_3 : decode cX2_askNamed 3 = .ok (.aload_n 0, 1) := by decide +kernel
theorem dX2_askNamed_4 : decode cX2_askNamed 4 = .ok (.getfield 41, 3) := by decide +kernel
theorem dX2_askNamed_7 : decode cX2_askNamed 7 = .ok (.if_icmp .ge 22, 3) := by decide +kernel
theorem dX2_askNamed_10 : decode cX2_askNamed 10 = .ok (.aload_n 0, 1) := by decide +kernel
theorem dX2_askNamed_11 : decode cX2_askNamed 11 = .ok (.getfield 24, 3) := by decide +kernel
theorem dX2_askNamed_14 : decode cX2_askNamed 14 = .ok (.iload_n 3, 1) := by decide +kernel
theorem dX2_askNamed_15 : decode cX2_askNamed 15 = .ok (.laload, 1) := by decide +kernel
theorem dX2_askNamed_16 : decode cX2_askNamed 16 = .ok (.lload_n 1, 1) := by decide +kernel
theorem dX2_askNamed_17 : decode cX2_askNamed 17 = .ok (.lcmp, 1) := by decide +kernel
theorem dX2_askNamed_18 : decode cX2_askNamed 18 = .ok (.ifCond .ne 5, 3) := by decide +kernel
theorem dX2_askNamed_21 : decode cX2_askNamed 21 = .ok (.iload_n 3, 1) := by decide +kernel
theorem dX2_askNamed_22 : decode cX2_askNamed 22 = .ok (.ireturn, 1) := by decide +kernel
theorem dX2_askNamed_23 : decode cX2_askNamed 23 = .ok (.iinc 3 1, 3) := by decide +kernel
theorem dX2_askNamed_26 : decode cX2_askNamed 26 = .ok (.goto (-24), 3) := by decide +kernel
theorem dX2_askNamed_29 : decode cX2_askNamed 29 = .ok (.iconst (-1), 1) := by decide +kernel
theorem dX2_askNamed_30 : decode cX2_askNamed 30 = .ok (.ireturn, 1) := by decide +kernel
theorem dX2_manNamed_0 : decode cX2_manNamed 0 = .ok (.iconst 0, 1) := by decide +kernel
theorem dX2_manNamed_1 : decode cX2_manNamed 1 = .ok (.istore_n 3, 1) := by decide +kernel
theorem dX2_manNamed_2 : decode cX2_manNamed 2 = .ok (.iload_n 3, 1) := by decide +kernel
theorem dX2_manNamed_3 : decode cX2_manNamed 3 = .ok (.aload_n 0, 1) := by decide +kernel
theorem dX2_manNamed_4 : decode cX2_manNamed 4 = .ok (.getfield 44, 3) := by decide +kernel
theorem dX2_manNamed_7 : decode cX2_manNamed 7 = .ok (.if_icmp .ge 22, 3) := by decide +kernel
theorem dX2_manNamed_10 : decode cX2_manNamed 10 = .ok (.aload_n 0, 1) := by decide +kernel
theorem dX2_manNamed_11 : decode cX2_manNamed 11 = .ok (.getfield 28, 3) := by decide +kernel
theorem dX2_manNamed_14 : decode cX2_manNamed 14 = .ok (.iload_n 3, 1) := by decide +kernel
theorem dX2_manNamed_15 : decode cX2_manNamed 15 = .ok (.laload, 1) := by decide +kernel
theorem dX2_manNamed_16 : decode cX2_manNamed 16 = .ok (.lload_n 1, 1) := by decide +kernel
theorem dX2_manNamed_17 : decode cX2_manNamed 17 = .ok (.lcmp, 1) := by decide +kernel
theorem dX2_manNamed_18 : decode cX2_manNamed 18 = .ok (.ifCond .ne 5, 3) := by decide +kernel
theorem dX2_manNamed_21 : decode cX2_manNamed 21 = .ok (.iload_n 3, 1) := by decide +kernel
theorem dX2_manNamed_22 : decode cX2_manNamed 22 = .ok (.ireturn, 1) := by decide +kernel
theorem dX2_manNamed_23 : decode cX2_manNamed 23 = .ok (.iinc 3 1, 3) := by decide +kernel
theorem dX2_manNamed_26 : decode cX2_manNamed 26 = .ok (.goto (-24), 3) := by decide +kernel
theorem dX2_manNamed_29 : decode cX2_manNamed 29 = .ok (.iconst (-1), 1) := by decide +kernel
theorem dX2_manNamed_30 : decode cX2_manNamed 30 = .ok (.ireturn, 1) := by decide +kernel
theorem dX3_init_0 : decode cX3_init 0 = .ok (.aload_n 0, 1) := by decide +kernel
theorem dX3_init_1 : decode cX3_init 1 = .ok (.invokespecial 3, 3) := by decide +kernel
theorem dX3_init_4 : decode cX3_init 4 = .ok (.aload_n 0, 1) := by decide +kernel
theorem dX3_init_5 : decode cX3_init 5 = .ok (.bipush 90, 2) := by decide +kernel
theorem dX3_init_7 : decode cX3_init 7 = .ok (.newarray .int, 2) := by decide +kernel
theorem dX3_init_9 : decode cX3_init 9 = .ok (.putfield 9, 3) := by decide +kernel
theorem dX3_init_12 : decode cX3_init 12 = .ok (.aload_n 0, 1) := by decide +kernel
theorem dX3_init_13 : decode cX3_init 13 = .ok (.bipush 90, 2) := by decide +kernel
theorem dX3_init_15 : decode cX3_init 15 = .ok (.newarray .int, 2) := by decide +kernel
theorem dX3_init_17 : decode cX3_init 17 = .ok (.putfield 15, 3) := by decide +kernel
theorem dX3_init_20 : decode cX3_init 20 = .ok (.aload_n 0, 1) := by decide +kernel
theorem dX3_init_21 : decode cX3_init 21 = .ok (.bipush 10, 2) := by decide +kernel
theorem dX3_init_23 : decode cX3_init 23 = .ok (.newarray .int, 2) := by decide +kernel
theorem dX3_init_25 : decode cX3_init 25 = .ok (.putfield 18, 3) := by decide +kernel
theorem dX3_init_28 : decode cX3_init 28 = .ok (.aload_n 0, 1) := by decide +kernel
theorem dX3_init_29 : decode cX3_init 29 = .ok (.bipush 10, 2) := by decide +kernel
theorem dX3_init_31 : decode cX3_init 31 = .ok (.newarray .int, 2) := by decide +kernel
theorem dX3_init_33 : decode cX3_init 33 = .ok (.putfield 21, 3) := by decide +kernel
theorem dX3_init_36 : decode cX3_init 36 = .ok (.aload_n 0, 1) := by decide +kernel
theorem dX3_init_37 : decode cX3_init 37 = .ok (.iconst (-1), 1) := by decide +kernel
theorem dX3_init_38 : decode cX3_init 38 = .ok (.putfield 24, 3) := by decide +kernel
theorem dX3_init_41 : decode cX3_init 41 = .ok (.return_, 1) := by decide +kernel
theorem dX3_begin_0 : decode cX3_begin 0 = .ok (.aload_n 1, 1) := by decide +kernel
theorem dX3_begin_1 : decode cX3_begin 1 = .ok (.getfield 28, 3) := by decide +kernel
theorem dX3_begin_4 : decode cX3_begin 4 = .ok (.iconst 0, 1) := by decide +kernel
theorem dX3_begin_5 : decode cX3_begin 5 = .ok (.aload_n 0, 1) := by decide +kernel
theorem dX3_begin_6 : decode cX3_begin 6 = .ok (.getfield 9, 3) := by decide +kernel
theorem dX3_begin_9 : decode cX3_begin 9 = .ok (.iconst 0, 1) := by decide +kernel
theorem dX3_begin_10 : decode cX3_begin 10 = .ok (.aload_n 0, 1) := by decide +kernel
theorem dX3_begin_11 : decode cX3_begin 11 = .ok (.getfield 9, 3) := by decide +kernel
theorem dX3_begin_14 : decode cX3_begin 14 = .ok (.arraylength, 1) := by decide +kernel
theorem dX3_begin_15 : decode cX3_begin 15 = .ok (.invokestatic 33, 3) := by decide +kernel
theorem dX3_begin_18 : decode cX3_begin 18 = .ok (.aload_n 0, 1) := by decide +kernel
theorem dX3_begin_19 : decode cX3_begin 19 = .ok (.getfield 18, 3) := by decide +kernel
theorem dX3_begin_22 : decode cX3_begin 22 = .ok (.iconst 0, 1) := by decide +kernel
theorem dX3_begin_23 : decode cX3_begin 23 = .ok (.invokestatic 39, 3) := by decide +kernel
theorem dX3_begin_26 : decode cX3_begin 26 = .ok (.aload_n 0, 1) := by decide +kernel
theorem dX3_begin_27 : decode cX3_begin 27 = .ok (.getfield 21, 3) := by decide +kernel
theorem dX3_begin_30 : decode cX3_begin 30 = .ok (.iconst 0, 1) := by decide +kernel
theorem dX3_begin_31 : decode cX3_begin 31 = .ok (.invokestatic 39, 3) := by decide +kernel
theorem dX3_begin_34 : decode cX3_begin 34 = .ok (.aload_n 0, 1) := by decide +kernel
theorem dX3_begin_35 : decode cX3_begin 35 = .ok (.iconst 0, 1) := by decide +kernel
theorem dX3_begin_36 : decode cX3_begin 36 = .ok (.putfield 45, 3) := by decide +kernel
theorem dX3_begin_39 : decode cX3_begin 39 = .ok (.aload_n 0, 1) := by decide +kernel
theorem dX3_begin_40 : decode cX3_begin 40 = .ok (.iconst 0, 1) := by decide +kernel
theorem dX3_begin_41 : decode cX3_begin 41 = .ok (.putfield 48, 3) := by decide +kernel
theorem dX3_begin_44 : decode cX3_begin 44 = .ok (.aload_n 0, 1) := by decide +kernel
theorem dX3_begin_45 : decode cX3_begin 45 = .ok (.iconst 0, 1) := by decide +kernel
theorem dX3_begin_46 : decode cX3_begin 46 = .ok (.putfield 51, 3) := by decide +kernel
theorem dX3_begin_49 : decode cX3_begin 49 = .ok (.aload_n 0, 1) := by decide +kernel
theorem dX3_begin_50 : decode cX3_begin 50 = .ok (.iconst 0, 1) := by decide +kernel
theorem dX3_begin_51 : decode cX3_begin 51 = .ok (.putfield 54, 3) := by decide +kernel
theorem dX3_begin_54 : decode cX3_begin 54 = .ok (.aload_n 0, 1) := by decide +kernel
theorem dX3_begin_55 : decode cX3_begin 55 = .ok (.aload_n 1, 1) := by decide +kernel
theorem dX3_begin_56 : decode cX3_begin 56 = .ok (.getfield 57, 3) := by decide +kernel
theorem dX3_begin_59 : decode cX3_begin 59 = .ok (.ifCond .le 7, 3) := by decide +kernel
theorem dX3_begin_62 : decode cX3_begin 62 = .ok (.iconst 0, 1) := by decide +kernel
theorem dX3_begin_63 : decode cX3_begin 63 = .ok (.goto 4, 3) := by decide +kernel
theorem dX3_begin_66 : decode cX3_begin 66 = .ok (.iconst (-1), 1) := by decide +kernel
theorem dX3_begin_67 : decode cX3_begin 67 = .ok (.putfield 24, 3) := by decide +kernel
theorem dX3_begin_70 : decode cX3_begin 70 = .ok (.aload_n 0, 1) := by decide +kernel
theorem dX3_begin_71 : decode cX3_begin 71 = .ok (.iconst 0, 1) := by decide +kernel
theorem dX3_begin_72 : decode cX3_begin 72 = .ok (.putfield 60, 3) := by decide +kernel
theorem dX3_begin_75 : decode cX3_begin 75 = .ok (.aload_n 0, 1) := by decide +kernel
theorem dX3_begin_76 : decode cX3_begin 76 = .ok (.iconst 0, 1) := by decide +kernel
theorem dX3_begin_77 : decode cX3_begin 77 = .ok (.putfield 63, 3) := by decide +kernel
theorem dX3_begin_80 : decode cX3_begin 80 = .ok (.return_, 1) := by decide +kernel
theorem dX3_copyFrom_0 : decode cX3_copyFrom 0 = .ok (.aload_n 1, 1) := by decide +kernel
theorem dX3_copyFrom_1 : decode cX3_copyFrom 1 = .ok (.getfield 9, 3) := by decide +kernel
theorem dX3_copyFrom_4 : decode cX3_copyFrom 4 = .ok (.iconst 0, 1) := by decide +kernel
theorem dX3_copyFrom_5 : decode cX3_copyFrom 5 = .ok (.aload_n 0, 1) := by decide +kernel
theorem dX3_copyFrom_6 : decode cX3_copyFrom 6 = .ok (.getfield 9, 3) := by decide +kernel
theorem dX3_copyFrom_9 : decode cX3_copyFrom 9 = .ok (.iconst 0, 1) := by decide +kernel
theorem dX3_copyFrom_10 : decode cX3_copyFrom 10 = .ok (.aload_n 0, 1) := by decide +kernel
theorem dX3_copyFrom_11 : decode cX3_copyFrom 11 = .ok (.getfield 9, 3) := by decide +kernel
theorem dX3_copyFrom_14 : decode cX3_copyFrom 14 = .ok (.arraylength, 1) := by decide +kernel
theorem dX3_copyFrom_15 : decode cX3_copyFrom 15 = .ok (.invokestatic 33, 3) := by decide +kernel
theorem dX3_copyFrom_18 : decode cX3_copyFrom 18 = .ok (.aload_n 1, 1) := by decide +kernel
theorem dX3_copyFrom_19 : decode cX3_copyFrom 19 = .ok (.getfield 15, 3) := by decide +kernel
theorem dX3_copyFrom_22 : decode cX3_copyFrom 22 = .ok (.iconst 0, 1) := by decide +kernel
theorem dX3_copyFrom_23 : decode cX3_copyFrom 23 = .ok (.aload_n 0, 1) := by decide +kernel
theorem dX3_copyFrom_24 : decode cX3_copyFrom 24 = .ok (.getfield 15, 3) := by decide +kernel
theorem dX3_copyFrom_27 : decode cX3_copyFrom 27 = .ok (.iconst 0, 1) := by decide +kernel
theorem dX3_copyFrom_28 : decode cX3_copyFrom 28 = .ok (.aload_n 0, 1) := by decide +kernel
theorem dX3_copyFrom_29 : decode cX3_copyFrom 29 = .ok (.getfield 15, 3) := by decide +kernel
theorem dX3_copyFrom_32 : decode cX3_copyFrom 32 = .ok (.arraylength, 1) := by decide +kernel
theorem dX3_copyFrom_33 : decode cX3_copyFrom 33 = .ok (.invokestatic 33, 3) := by decide +kernel
theorem dX3_copyFrom_36 : decode cX3_copyFrom 36 = .ok (.aload_n 1, 1) := by decide +kernel
theorem dX3_copyFrom_37 : decode cX3_copyFrom 37 = .ok (.getfield 18, 3) := by decide +kernel
theorem dX3_copyFrom_40 : decode cX3_copyFrom 40 = .ok (.iconst 0, 1) := by decide +kernel
theorem dX3_copyFrom_41 : decode cX3_copyFrom 41 = .ok (.aload_n 0, 1) := by decide +kernel
theorem dX3_copyFrom_42 : decode cX3_copyFrom 42 = .ok (.getfield 18, 3) := by decide +kernel
theorem dX3_copyFrom_45 : decode cX3_copyFrom 45 = .ok (.iconst 0, 1) := by decide +kernel
theorem dX3_copyFrom_46 : decode cX3_copyFrom 46 = .ok (.aload_n 0, 1) := by decide +kernel
theorem dX3_copyFrom_47 : decode cX3_copyFrom 47 = .ok (.getfield 18, 3) := by decide +kernel
theorem dX3_copyFrom_50 : decode cX3_copyFrom 50 = .ok (.arraylength, 1) := by decide +kernel
theorem dX3_copyFrom_51 : decode cX3_copyFrom 51 = .ok (.invokestatic 33, 3) := by decide +kernel
theorem dX3_copyFrom_54 : decode cX3_copyFrom 54 = .ok (.aload_n 1, 1) := by decide +kernel
theorem dX3_copyFrom_55 : decode cX3_copyFrom 55 = .ok (.getfield 21, 3) := by decide +kernel
theorem dX3_copyFrom_58 : decode cX3_copyFrom 58 = .ok (.iconst 0, 1) := by decide +kernel
theorem dX3_copyFrom_59 : decode cX3_copyFrom 59 = .ok (.aload_n 0, 1) := by decide +kernel
theorem dX3_copyFrom_60 : decode cX3_copyFrom 60 = .ok (.getfield 21, 3) := by decide +kernel
theorem dX3_copyFrom_63 : decode cX3_copyFrom 63 = .ok (.iconst 0, 1) := by decide +kernel
theorem dX3_copyFrom_64 : decode cX3_copyFrom 64 = .ok (.aload_n 0, 1) := by decide +kernel
theorem dX3_copyFrom_65 : decode cX3_copyFrom 65 = .ok (.getfield 21, 3) := by decide +kernel
theorem dX3_copyFrom_68 : decode cX3_copyFrom 68 = .ok (.arraylength, 1) := by decide +kernel
theorem dX3_copyFrom_69 : decode cX3_copyFrom 69 = .ok (.invokestatic 33, 3) := by decide +kernel
theorem dX3_copyFrom_72 : decode cX3_copyFrom 72 = .ok (.aload_n 0, 1) := by decide +kernel
theorem dX3_copyFrom_73 : decode cX3_copyFrom 73 = .ok (.aload_n 1, 1) := by decide +kernel
theorem dX3_copyFrom_74 : decode cX3_copyFrom 74 = .ok (.getfield 45, 3) := by decide +kernel
theorem dX3_copyFrom_77 : decode cX3_copyFrom 77 = .ok (.putfield 45, 3) := by decide +kernel
theorem dX3_copyFrom_80 : decode cX3_copyFrom 80 = .ok (.aload_n 0, 1) := by decide +kernel
theorem dX3_copyFrom_81 : decode cX3_copyFrom 81 = .ok (.aload_n 1, 1) := by decide +kernel
theorem dX3_copyFrom_82 : decode cX3_copyFrom 82 = .ok (.getfield 48, 3) := by decide +kernel
theorem dX3_copyFrom_85 : decode cX3_copyFrom 85 = .ok (.putfield 48, 3) := by decide +kernel
theorem dX3_copyFrom_88 : decode cX3_copyFrom 88 = .ok (.aload_n 0, 1) := by decide +kernel
theorem dX3_copyFrom_89 : decode cX3_copyFrom 89 = .ok (.aload_n 1, 1) := by decide +kernel
theorem dX3_copyFrom_90 : decode cX3_copyFrom 90 = .ok (.getfield 51, 3) := by decide +kernel
theorem dX3_copyFrom_93 : decode cX3_copyFrom 93 = .ok (.putfield 51, 3) := by decide +kernel
theorem dX3_copyFrom_96 : decode cX3_copyFrom 96 = .ok (.aload_n 0, 1) := by decide +kernel
theorem dX3_copyFrom_97 : decode cX3_copyFrom 97 = .ok (.aload_n 1, 1) := by decide +kernel
theorem dX3_copyFrom_98 : decode cX3_copyFrom 98 = .ok (.getfield 54, 3) := by decide +kernel
theorem dX3_copyFrom_101 : decode cX3_copyFrom 101 = .ok (.putfield 54, 3) := by decide +kernel
theorem dX3_copyFrom_104 : decode cX3_copyFrom 104 = .ok (.aload_n 0, 1) := by decide +kernel
theorem dX3_copyFrom_105 : decode cX3_copyFrom 105 = .ok (.aload_n 1, 1) := by decide +kernel
theorem dX3_copyFrom_106 : decode cX3_copyFrom 106 = .ok (.getfield 24, 3) := by decide +kernel
theorem dX3_copyFrom_109 : decode cX3_copyFrom 109 = .ok (.putfield 24, 3) := by decide +kernel
theorem dX3_copyFrom_112 : decode cX3_copyFrom 112 = .ok (.aload_n 0, 1) := by decide +kernel
theorem dX3_copyFrom_113 : decode cX3_copyFrom 113 = .ok (.aload_n 1, 1) := by decide +kernel
theorem dX3_copyFrom_114 : decode cX3_copyFrom 114 = .ok (.getfield 60, 3) := by decide +kernel
theorem dX3_copyFrom_117 : decode cX3_copyFrom 117 = .ok (.putfield 60, 3) := by decide +kernel
theorem dX3_copyFrom_120 : decode cX3_copyFrom 120 = .ok (.aload_n 0, 1) := by decide +kernel
theorem dX3_copyFrom_121 : decode cX3_copyFrom 121 = .ok (.aload_n 1, 1) := by decide +kernel
theorem dX3_copyFrom_122 : decode cX3_copyFrom 122 = .ok (.getfield 63, 3) := by decide +kernel
theorem dX3_copyFrom_125 : decode cX3_copyFrom 125 = .ok (.putfield 63, 3) := by decide +kernel
theorem dX3_copyFrom_128 : decode cX3_copyFrom 128 = .ok (.return_, 1) := by decide +kernel
theorem dX4_init_0 : decode cX4_init 0 = .ok (.aload_n 0, 1) := by decide +kernel
theorem dX4_init_1 : decode cX4_init 1 = .ok (.invokespecial 3, 3) := by decide +kernel
theorem dX4_init_4 : decode cX4_init 4 = .ok (.aload_n 0, 1) := by decide +kernel
theorem dX4_init_5 : decode cX4_init 5 = .ok (.sipush 1024, 3) := by decide +kernel
theorem dX4_init_8 : decode cX4_init 8 = .ok (.newarray .int, 2) := by decide +kernel
theorem dX4_init_10 : decode cX4_init 10 = .ok (.putfield 9, 3) := by decide +kernel
theorem dX4_init_13 : decode cX4_init 13 = .ok (.aload_n 0, 1) := by decide +kernel
theorem dX4_init_14 : decode cX4_init 14 = .ok (.sipush 1024, 3) := by decide +kernel
theorem dX4_init_17 : decode cX4_init 17 = .ok (.newarray .boolean, 2) := by decide +kernel
theorem dX4_init_19 : decode cX4_init 19 = .ok (.putfield 15, 3) := by decide +kernel
theorem dX4_init_22 : decode cX4_init 22 = .ok (.aload_n 0, 1) := by decide +kernel
theorem dX4_init_23 : decode cX4_init 23 = .ok (.sipush 1024, 3) := by decide +kernel
theorem dX4_init_26 : decode cX4_init 26 = .ok (.newarray .boolean, 2) := by decide +kernel
theorem dX4_init_28 : decode cX4_init 28 = .ok (.putfield 19, 3) := by decide +kernel
theorem dX4_init_31 : decode cX4_init 31 = .ok (.aload_n 0, 1) := by decide +kernel
theorem dX4_init_32 : decode cX4_init 32 = .ok (.sipush 2048, 3) := by decide +kernel
theorem dX4_init_35 : decode cX4_init 35 = .ok (.newarray .int, 2) := by decide +kernel
theorem dX4_init_37 : decode cX4_init 37 = .ok (.putfield 22, 3) := by decide +kernel
theorem dX4_init_40 : decode cX4_init 40 = .ok (.aload_n 0, 1) := by decide +kernel
theorem dX4_init_41 : decode cX4_init 41 = .ok (.sipush 2048, 3) := by decide +kernel
theorem dX4_init_44 : decode cX4_init 44 = .ok (.newarray .int, 2) := by decide +kernel
theorem dX4_init_46 : decode cX4_init 46 = .ok (.putfield 25, 3) := by decide +kernel
theorem dX4_init_49 : decode cX4_init 49 = .ok (.return_, 1) := by decide +kernel
theorem dX4_load_0 : decode cX4_load 0 = .ok (.aload_n 0, 1) := by decide +kernel
theorem dX4_load_1 : decode cX4_load 1 = .ok (.getfield 9, 3) := by decide +kernel
theorem dX4_load_4 : decode cX4_load 4 = .ok (.iconst 0, 1) := by decide +kernel
theorem dX4_load_5 : decode cX4_load 5 = .ok (.iconst 0, 1) := by decide +kernel
theorem dX4_load_6 : decode cX4_load 6 = .ok (.iastore, 1) := by decide +kernel
theorem dX4_load_7 : decode cX4_load 7 = .ok (.aload_n 0, 1) := by decide +kernel
theorem dX4_load_8 : decode cX4_load 8 = .ok (.getfield 15, 3) := by decide +kernel
theorem dX4_load_11 : decode cX4_load 11 = .ok (.iconst 0, 1) := by decide +kernel
theorem dX4_load_12 : decode cX4_load 12 = .ok (.iconst 1, 1) := by decide +kernel
theorem dX4_load_13 : decode cX4_load 13 = .ok (.bastore, 1) := by decide +kernel
theorem dX4_load_14 : decode cX4_load 14 = .ok (.aload_n 0, 1) := by decide +kernel
theorem dX4_load_15 : decode cX4_load 15 = .ok (.getfield 19, 3) := by decide +kernel
theorem dX4_load_18 : decode cX4_load 18 = .ok (.iconst 0, 1) := by decide +kernel
theorem dX4_load_19 : decode cX4_load 19 = .ok (.iconst 0, 1) := by decide +kernel
theorem dX4_load_20 : decode cX4_load 20 = .ok (.bastore, 1) := by decide +kernel
theorem dX4_load_21 : decode cX4_load 21 = .ok (.iconst 0, 1) := by decide +kernel
theorem dX4_load_22 : decode cX4_load 22 = .ok (.istore_n 3, 1) := by decide +kernel
theorem dX4_load_23 : decode cX4_load 23 = .ok (.iload_n 3, 1) := by decide +kernel
theorem dX4_load_24 : decode cX4_load 24 = .ok (.aload_n 1, 1) := by decide +kernel
theorem dX4_load_25 : decode cX4_load 25 = .ok (.getfield 28, 3) := by decide +kernel
theorem dX4_load_28 : decode cX4_load 28 = .ok (.getfield 34, 3) := by decide +kernel
theorem dX4_load_31 : decode cX4_load 31 = .ok (.if_icmp .ge 151, 3) := by decide +kernel
theorem dX4_load_34 : decode cX4_load 34 = .ok (.iconst 1, 1) := by decide +kernel
theorem dX4_load_35 : decode cX4_load 35 = .ok (.iload_n 3, 1) := by decide +kernel
theorem dX4_load_36 : decode cX4_load 36 = .ok (.ishl, 1) := by decide +kernel
theorem dX4_load_37 : decode cX4_load 37 = .ok (.istore 4, 2) := by decide +kernel
theorem dX4_load_39 : decode cX4_load 39 = .ok (.aload_n 1, 1) := by decide +kernel
theorem dX4_load_40 : decode cX4_load 40 = .ok (.iload 4, 2) := by decide +kernel
theorem dX4_load_42 : decode cX4_load 42 = .ok (.iload_n 2, 1) := by decide +kernel
theorem dX4_load_43 : decode cX4_load 43 = .ok (.invokevirtual 40, 3) := by decide +kernel
theorem dX4_load_46 : decode cX4_load 46 = .ok (.istore 5, 2) := by decide +kernel
theorem dX4_load_48 : decode cX4_load 48 = .ok (.aload_n 1, 1) := by decide +kernel
theorem dX4_load_49 : decode cX4_load 49 = .ok (.iload_n 3, 1) := by decide +kernel
theorem dX4_load_50 : decode cX4_load 50 = .ok (.invokestatic 44, 3) := by decide +kernel
theorem dX4_load_53 : decode cX4_load 53 = .ok (.istore 6, 2) := by decide +kernel
theorem dX4_load_55 : decode cX4_load 55 = .ok (.iconst 0, 1) := by decide +kernel
theorem dX4_load_56 : decode cX4_load 56 = .ok (.istore 7, 2) := by decide +kernel
theorem dX4_load_58 : decode cX4_load 58 = .ok (.iload 7, 2) := by decide +kernel
theorem dX4_load_60 : decode cX4_load 60 = .ok (.iload 4, 2) := by decide +kernel
theorem dX4_load_62 : decode cX4_load 62 = .ok (.if_icmp .ge 114, 3) := by decide +kernel
theorem dX4_load_65 : decode cX4_load 65 = .ok (.iload 4, 2) := by decide +kernel
theorem dX4_load_67 : decode cX4_load 67 = .ok (.iload 7, 2) := by decide +kernel
theorem dX4_load_69 : decode cX4_load 69 = .ok (.ior, 1) := by decide +kernel
theorem dX4_load_70 : decode cX4_load 70 = .ok (.istore 8, 2) := by decide +kernel
theorem dX4_load_72 : decode cX4_load 72 = .ok (.aload_n 0, 1) := by decide +kernel
theorem dX4_load_73 : decode cX4_load 73 = .ok (.getfield 9, 3) := by decide +kernel
theorem dX4_load_76 : decode cX4_load 76 = .ok (.iload 8, 2) := by decide +kernel
theorem dX4_load_78 : decode cX4_load 78 = .ok (.aload_n 0, 1) := by decide +kernel
theorem dX4_load_79 : decode cX4_load 79 = .ok (.getfield 9, 3) := by decide +kernel
theorem dX4_load_82 : decode cX4_load 82 = .ok (.iload 7, 2) := by decide +kernel
theorem dX4_load_84 : decode cX4_load 84 = .ok (.iaload, 1) := by decide +kernel
theorem dX4_load_85 : decode cX4_load 85 = .ok (.iload 5, 2) := by decide +kernel
theorem dX4_load_87 : decode cX4_load 87 = .ok (.iadd, 1) := by decide +kernel
theorem dX4_load_88 : decode cX4_load 88 = .ok (.iastore, 1) := by decide +kernel
theorem dX4_load_89 : decode cX4_load 89 = .ok (.aload_n 0, 1) := by decide +kernel
theorem dX4_load_90 : decode cX4_load 90 = .ok (.getfield 15, 3) := by decide +kernel
theorem dX4_load_93 : decode cX4_load 93 = .ok (.iload 8, 2) := by decide +kernel
theorem dX4_load_95 : decode cX4_load 95 = .ok (.aload_n 0, 1) := by decide +kernel
theorem dX4_load_96 : decode cX4_load 96 = .ok (.getfield 15, 3) := by decide +kernel
theorem dX4_load_99 : decode cX4_load 99 = .ok (.iload 7, 2) := by decide +kernel
theorem dX4_load_101 : decode cX4_load 101 = .ok (.baload, 1) := by decide +kernel
theorem dX4_load_102 : decode cX4_load 102 = .ok (.ifCond .eq 15, 3) := by decide +kernel
theorem dX4_load_105 : decode cX4_load 105 = .ok (.iload 6, 2) := by decide +kernel
theorem dX4_load_107 : decode cX4_load 107 = .ok (.iload 7, 2) := by decide +kernel
theorem dX4_load_109 : decode cX4_load 109 = .ok (.iand, 1) := by decide +kernel
theorem dX4_load_110 : decode cX4_load 110 = .ok (.ifCond .ne 7, 3) := by decide +kernel
theorem dX4_load_113 : decode cX4_load 113 = .ok (.iconst 1, 1) := by decide +kernel
theorem dX4_load_114 : decode cX4_load 114 = .ok (.goto 4, 3) := by decide +kernel
theorem dX4_load_117 : decode cX4_load 117 = .ok (.iconst 0, 1) := by decide +kernel
theorem dX4_load_118 : decode cX4_load 118 = .ok (.bastore, 1) := by decide +kernel
theorem dX4_load_119 : decode cX4_load 119 = .ok (.aload_n 0, 1) := by decide +kernel
theorem dX4_load_120 : decode cX4_load 120 = .ok (.getfield 19, 3) := by decide +kernel
theorem dX4_load_123 : decode cX4_load 123 = .ok (.iload 8, 2) := by decide +kernel
theorem dX4_load_125 : decode cX4_load 125 = .ok (.aload_n 0, 1) := by decide +kernel
theorem dX4_load_126 : decode cX4_load 126 = .ok (.getfield 15, 3) := by decide +kernel
theorem dX4_load_129 : decode cX4_load 129 = .ok (.iload 8, 2) := by decide +kernel
theorem dX4_load_131 : decode cX4_load 131 = .ok (.baload, 1) := by decide +kernel
theorem dX4_load_132 : decode cX4_load 132 = .ok (.ifCond .eq 36, 3) := by decide +kernel
theorem dX4_load_135 : decode cX4_load 135 = .ok (.aload_n 1, 1) := by decide +kernel
theorem dX4_load_136 : decode cX4_load 136 = .ok (.aload_n 0, 1) := by decide +kernel
theorem dX4_load_137 : decode cX4_load 137 = .ok (.getfield 9, 3) := by decide +kernel
theorem dX4_load_140 : decode cX4_load 140 = .ok (.iload 8, 2) := by decide +kernel
theorem dX4_load_142 : decode cX4_load 142 = .ok (.iaload, 1) := by decide +kernel
theorem dX4_load_143 : decode cX4_load 143 = .ok (.invokevirtual 48, 3) := by decide +kernel
theorem dX4_load_146 : decode cX4_load 146 = .ok (.ifCond .eq 22, 3) := by decide +kernel
theorem dX4_load_149 : decode cX4_load 149 = .ok (.iload 8, 2) := by decide +kernel
theorem dX4_load_151 : decode cX4_load 151 = .ok (.invokestatic 52, 3) := by decide +kernel
theorem dX4_load_154 : decode cX4_load 154 = .ok (.aload_n 1, 1) := by decide +kernel
theorem dX4_load_155 : decode cX4_load 155 = .ok (.getfield 28, 3) := by decide +kernel
theorem dX4_load_158 : decode cX4_load 158 = .ok (.getfield 58, 3) := by decide +kernel
theorem dX4_load_161 : decode cX4_load 161 = .ok (.if_icmp .gt 7, 3) := by decide +kernel
theorem dX4_load_164 : decode cX4_load 164 = .ok (.iconst 1, 1) := by decide +kernel
theorem dX4_load_165 : decode cX4_load 165 = .ok (.goto 4, 3) := by decide +kernel
theorem dX4_load_168 : decode cX4_load 168 = .ok (.iconst 0, 1) := by decide +kernel
theorem dX4_load_169 : decode cX4_load 169 = .ok (.bastore, 1) := by decide +kernel
theorem dX4_load_170 : decode cX4_load 170 = .ok (.iinc 7 1, 3) := by decide +kernel
theorem dX4_load_173 : decode cX4_load 173 = .ok (.goto (-115), 3) := by decide +kernel
theorem dX4_load_176 : decode cX4_load 176 = .ok (.iinc 3 1, 3) := by decide +kernel
theorem dX4_load_179 : decode cX4_load 179 = .ok (.goto (-156), 3) := by decide +kernel
theorem dX4_load_182 : decode cX4_load 182 = .ok (.return_, 1) := by decide +kernel
theorem dX4_foesAhead_0 : decode cX4_foesAhead 0 = .ok (.iconst 0, 1) := by decide +kernel
theorem dX4_foesAhead_1 : decode cX4_foesAhead 1 = .ok (.istore_n 2, 1) := by decide +kernel
theorem dX4_foesAhead_2 : decode cX4_foesAhead 2 = .ok (.iconst 0, 1) := by decide +kernel
theorem dX4_foesAhead_3 : decode cX4_foesAhead 3 = .ok (.istore_n 3, 1) := by decide +kernel
theorem dX4_foesAhead_4 : decode cX4_foesAhead 4 = .ok (.iload_n 3, 1) := by decide +kernel
theorem dX4_foesAhead_5 : decode cX4_foesAhead 5 = .ok (.iload_n 1, 1) := by decide +kernel
theorem dX4_foesAhead_6 : decode cX4_foesAhead 6 = .ok (.if_icmp .ge 24, 3) := by decide +kernel
theorem dX4_foesAhead_9 : decode cX4_foesAhead 9 = .ok (.aload_n 0, 1) := by decide +kernel
theorem dX4_foesAhead_10 : decode cX4_foesAhead 10 = .ok (.iload_n 3, 1) := by decide +kernel
theorem dX4_foesAhead_11 : decode cX4_foesAhead 11 = .ok (.iload_n 1, 1) := by decide +kernel
theorem dX4_foesAhead_12 : decode cX4_foesAhead 12 = .ok (.invokevirtual 61, 3) := by decide +kernel
theorem dX4_foesAhead_15 : decode cX4_foesAhead 15 = .ok (.ifCond .eq 9, 3) := by decide +kernel
theorem dX4_foesAhead_18 : decode cX4_foesAhead 18 = .ok (.iload_n 2, 1) := by decide +kernel
theorem dX4_foesAhead_19 : decode cX4_foesAhead 19 = .ok (.iconst 1, 1) := by decide +kernel
theorem dX4_foesAhead_20 : decode cX4_foesAhead 20 = .ok (.iload_n 3, 1) := by decide +kernel
theorem dX4_foesAhead_21 : decode cX4_foesAhead 21 = .ok (.ishl, 1) := by decide +kernel
theorem dX4_foesAhead_22 : decode cX4_foesAhead 22 = .ok (.ior, 1) := by decide +kernel
theorem dX4_foesAhead_23 : decode cX4_foesAhead 23 = .ok (.istore_n 2, 1) := by decide +kernel
theorem dX4_foesAhead_24 : decode cX4_foesAhead 24 = .ok (.iinc 3 1, 3) := by decide +kernel
theorem dX4_foesAhead_27 : decode cX4_foesAhead 27 = .ok (.goto (-23), 3) := by decide +kernel
theorem dX4_foesAhead_30 : decode cX4_foesAhead 30 = .ok (.iload_n 2, 1) := by decide +kernel
theorem dX4_foesAhead_31 : decode cX4_foesAhead 31 = .ok (.ireturn, 1) := by decide +kernel
theorem dX4_isCrew_0 : decode cX4_isCrew 0 = .ok (.iload_n 1, 1) := by decide +kernel
theorem dX4_isCrew_1 : decode cX4_isCrew 1 = .ok (.iload_n 2, 1) := by decide +kernel
theorem dX4_isCrew_2 : decode cX4_isCrew 2 = .ok (.iconst (-1), 1) := by decide +kernel
theorem dX4_isCrew_3 : decode cX4_isCrew 3 = .ok (.ixor, 1) := by decide +kernel
theorem dX4_isCrew_4 : decode cX4_isCrew 4 = .ok (.iand, 1) := by decide +kernel
theorem dX4_isCrew_5 : decode cX4_isCrew 5 = .ok (.ifCond .ne 16, 3) := by decide +kernel
theorem dX4_isCrew_8 : decode cX4_isCrew 8 = .ok (.aload_n 0, 1) := by decide +kernel
theorem dX4_isCrew_9 : decode cX4_isCrew 9 = .ok (.getfield 19, 3) := by decide +kernel
theorem dX4_isCrew_12 : decode cX4_isCrew 12 = .ok (.iload_n 1, 1) := by decide +kernel
theorem dX4_isCrew_13 : decode cX4_isCrew 13 = .ok (.baload, 1) := by decide +kernel
theorem dX4_isCrew_14 : decode cX4_isCrew 14 = .ok (.ifCond .eq 7, 3) := by decide +kernel
theorem dX4_isCrew_17 : decode cX4_isCrew 17 = .ok (.iconst 1, 1) := by decide +kernel
theorem dX4_isCrew_18 : decode cX4_isCrew 18 = .ok (.goto 4, 3) := by decide +kernel
theorem dX4_isCrew_21 : decode cX4_isCrew 21 = .ok (.iconst 0, 1) := by decide +kernel
theorem dX4_isCrew_22 : decode cX4_isCrew 22 = .ok (.ireturn, 1) := by decide +kernel
theorem dX4_fewestTrips_0 : decode cX4_fewestTrips 0 = .ok (.aload_n 1, 1) := by decide +kernel
theorem dX4_fewestTrips_1 : decode cX4_fewestTrips 1 = .ok (.getfield 28, 3) := by decide +kernel
theorem dX4_fewestTrips_4 : decode cX4_fewestTrips 4 = .ok (.invokevirtual 65, 3) := by decide +kernel
theorem dX4_fewestTrips_7 : decode cX4_fewestTrips 7 = .ok (.istore_n 3, 1) := by decide +kernel
theorem dX4_fewestTrips_8 : decode cX4_fewestTrips 8 = .ok (.aload_n 1, 1) := by decide +kernel
theorem dX4_fewestTrips_9 : decode cX4_fewestTrips 9 = .ok (.getfield 69, 3) := by decide +kernel
theorem dX4_fewestTrips_12 : decode cX4_fewestTrips 12 = .ok (.getfield 73, 3) := by decide +kernel
theorem dX4_fewestTrips_15 : decode cX4_fewestTrips 15 = .ok (.iload_n 3, 1) := by decide +kernel
theorem dX4_fewestTrips_16 : decode cX4_fewestTrips 16 = .ok (.if_icmp .ne 5, 3) := by decide +kernel
theorem dX4_fewestTrips_19 : decode cX4_fewestTrips 19 = .ok (.iconst 0, 1) := by decide +kernel
theorem dX4_fewestTrips_20 : decode cX4_fewestTrips 20 = .ok (.ireturn, 1) := by decide +kernel
theorem dX4_fewestTrips_21 : decode cX4_fewestTrips 21 = .ok (.aload_n 0, 1) := by decide +kernel
theorem dX4_fewestTrips_22 : decode cX4_fewestTrips 22 = .ok (.aload_n 1, 1) := by decide +kernel
theorem dX4_fewestTrips_23 : decode cX4_fewestTrips 23 = .ok (.iload_n 2, 1) := by decide +kernel
theorem dX4_fewestTrips_24 : decode cX4_fewestTrips 24 = .ok (.invokevirtual 78, 3) := by decide +kernel
theorem dX4_fewestTrips_27 : decode cX4_fewestTrips 27 = .ok (.aload_n 0, 1) := by decide +kernel
theorem dX4_fewestTrips_28 : decode cX4_fewestTrips 28 = .ok (.iload_n 3, 1) := by decide +kernel
theorem dX4_fewestTrips_29 : decode cX4_fewestTrips 29 = .ok (.aload_n 1, 1) := by decide +kernel
theorem dX4_fewestTrips_30 : decode cX4_fewestTrips 30 = .ok (.invokestatic 82, 3) := by decide +kernel
theorem dX4_fewestTrips_33 : decode cX4_fewestTrips 33 = .ok (.invokevirtual 86, 3) := by decide +kernel
theorem dX4_fewestTrips_36 : decode cX4_fewestTrips 36 = .ok (.ireturn, 1) := by decide +kernel
theorem dX4_firstOfTrips_0 : decode cX4_firstOfTrips 0 = .ok (.aload_n 0, 1) := by decide +kernel
theorem dX4_firstOfTrips_1 : decode cX4_firstOfTrips 1 = .ok (.aload_n 1, 1) := by decide +kernel
theorem dX4_firstOfTrips_2 : decode cX4_firstOfTrips 2 = .ok (.iload_n 2, 1) := by decide +kernel
theorem dX4_firstOfTrips_3 : decode cX4_firstOfTrips 3 = .ok (.invokevirtual 89, 3) := by decide +kernel
theorem dX4_firstOfTrips_6 : decode cX4_firstOfTrips 6 = .ok (.istore_n 3, 1) := by decide +kernel
theorem dX4_firstOfTrips_7 : decode cX4_firstOfTrips 7 = .ok (.iload_n 3, 1) := by decide +kernel
theorem dX4_firstOfTrips_8 : decode cX4_firstOfTrips 8 = .ok (.ifCond .gt 5, 3) := by decide +kernel
theorem dX4_firstOfTrips_11 : decode cX4_firstOfTrips 11 = .ok (.iload_n 3, 1) := by decide +kernel
theorem dX4_firstOfTrips_12 : decode cX4_firstOfTrips 12 = .ok (.ireturn, 1) := by decide +kernel
theorem dX4_firstOfTrips_13 : decode cX4_firstOfTrips 13 = .ok (.aload_n 1, 1) := by decide +kernel
theorem dX4_firstOfTrips_14 : decode cX4_firstOfTrips 14 = .ok (.invokevirtual 92, 3) := by decide +kernel
theorem dX4_firstOfTrips_17 : decode cX4_firstOfTrips 17 = .ok (.istore 4, 2) := by decide +kernel
theorem dX4_firstOfTrips_19 : decode cX4_firstOfTrips 19 = .ok (.aload_n 1, 1) := by decide +kernel
theorem dX4_firstOfTrips_20 : decode cX4_firstOfTrips 20 = .ok (.invokestatic 82, 3) := by decide +kernel
theorem dX4_firstOfTrips_23 : decode cX4_firstOfTrips 23 = .ok (.istore 5, 2) := by decide +kernel
theorem dX4_firstOfTrips_25 : decode cX4_firstOfTrips 25 = .ok (.iconst 1, 1) := by decide +kernel
theorem dX4_firstOfTrips_26 : decode cX4_firstOfTrips 26 = .ok (.istore 6, 2) := by decide +kernel
theorem dX4_firstOfTrips_28 : decode cX4_firstOfTrips 28 = .ok (.iload 6, 2) := by decide +kernel
theorem dX4_firstOfTrips_30 : decode cX4_firstOfTrips 30 = .ok (.iload 4, 2) := by decide +kernel
theorem dX4_firstOfTrips_32 : decode cX4_firstOfTrips 32 = .ok (.if_icmp .gt 43, 3) := by decide +kernel
theorem dX4_firstOfTrips_35 : decode cX4_firstOfTrips 35 = .ok (.aload_n 0, 1) := by decide +kernel
theorem dX4_firstOfTrips_36 : decode cX4_firstOfTrips 36 = .ok (.iload 6, 2) := by decide +kernel
theorem dX4_firstOfTrips_38 : decode cX4_firstOfTrips 38 = .ok (.iload 4, 2) := by decide +kernel
theorem dX4_firstOfTrips_40 : decode cX4_firstOfTrips 40 = .ok (.invokevirtual 95, 3) := by decide +kernel
theorem dX4_firstOfTrips_43 : decode cX4_firstOfTrips 43 = .ok (.ifCond .eq 26, 3) := by decide +kernel
theorem dX4_firstOfTrips_46 : decode cX4_firstOfTrips 46 = .ok (.aload_n 0, 1) := by decide +kernel
theorem dX4_firstOfTrips_47 : decode cX4_firstOfTrips 47 = .ok (.getfield 22, 3) := by decide +kernel
theorem dX4_firstOfTrips_50 : decode cX4_firstOfTrips 50 = .ok (.iload 5, 2) := by decide +kernel
theorem dX4_firstOfTrips_52 : decode cX4_firstOfTrips 52 = .ok (.iload 6, 2) := by decide +kernel
theorem dX4_firstOfTrips_54 : decode cX4_firstOfTrips 54 = .ok (.ixor, 1) := by decide +kernel
theorem dX4_firstOfTrips_55 : decode cX4_firstOfTrips 55 = .ok (.sipush 1024, 3) := by decide +kernel
theorem dX4_firstOfTrips_58 : decode cX4_firstOfTrips 58 = .ok (.ixor, 1) := by decide +kernel
theorem dX4_firstOfTrips_59 : decode cX4_firstOfTrips 59 = .ok (.iaload, 1) := by decide +kernel
theorem dX4_firstOfTrips_60 : decode cX4_firstOfTrips 60 = .ok (.iload_n 3, 1) := by decide +kernel
theorem dX4_firstOfTrips_61 : decode cX4_firstOfTrips 61 = .ok (.iconst 1, 1) := by decide +kernel
theorem dX4_firstOfTrips_62 : decode cX4_firstOfTrips 62 = .ok (.isub, 1) := by decide +kernel
theorem dX4_firstOfTrips_63 : decode cX4_firstOfTrips 63 = .ok (.if_icmp .ne 6, 3) := by decide +kernel
theorem dX4_firstOfTrips_66 : decode cX4_firstOfTrips 66 = .ok (.iload 6, 2) := by decide +kernel
theorem dX4_firstOfTrips_68 : decode cX4_firstOfTrips 68 = .ok (.ireturn, 1) := by decide +kernel
theorem dX4_firstOfTrips_69 : decode cX4_firstOfTrips 69 = .ok (.iinc 6 1, 3) := by decide +kernel
theorem dX4_firstOfTrips_72 : decode cX4_firstOfTrips 72 = .ok (.goto (-44), 3) := by decide +kernel
theorem dX4_firstOfTrips_75 : decode cX4_firstOfTrips 75 = .ok (.iconst (-1), 1) := by decide +kernel
theorem dX4_firstOfTrips_76 : decode cX4_firstOfTrips 76 = .ok (.ireturn, 1) := by decide +kernel
theorem dX4_stateOf_0 : decode cX4_stateOf 0 = .ok (.aload_n 0, 1) := by decide +kernel
theorem dX4_stateOf_1 : decode cX4_stateOf 1 = .ok (.getfield 69, 3) := by decide +kernel
theorem dX4_stateOf_4 : decode cX4_stateOf 4 = .ok (.getfield 98, 3) := by decide +kernel
theorem dX4_stateOf_7 : decode cX4_stateOf 7 = .ok (.iconst 1, 1) := by decide +kernel
theorem dX4_stateOf_8 : decode cX4_stateOf 8 = .ok (.if_icmp .ne 17, 3) := by decide +kernel
theorem dX4_stateOf_11 : decode cX4_stateOf 11 = .ok (.aload_n 0, 1) := by decide +kernel
theorem dX4_stateOf_12 : decode cX4_stateOf 12 = .ok (.getfield 69, 3) := by decide +kernel
theorem dX4_stateOf_15 : decode cX4_stateOf 15 = .ok (.getfield 73, 3) := by decide +kernel
theorem dX4_stateOf_18 : decode cX4_stateOf 18 = .ok (.sipush 1024, 3) := by decide +kernel
theorem dX4_stateOf_21 : decode cX4_stateOf 21 = .ok (.ior, 1) := by decide +kernel
theorem dX4_stateOf_22 : decode cX4_stateOf 22 = .ok (.goto 10, 3) := by decide +kernel
theorem dX4_stateOf_25 : decode cX4_stateOf 25 = .ok (.aload_n 0, 1) := by decide +kernel
theorem dX4_stateOf_26 : decode cX4_stateOf 26 = .ok (.getfield 69, 3) := by decide +kernel
theorem dX4_stateOf_29 : decode cX4_stateOf 29 = .ok (.getfield 73, 3) := by decide +kernel
theorem dX4_stateOf_32 : decode cX4_stateOf 32 = .ok (.ireturn, 1) := by decide +kernel
theorem dX4_measureFromEnd_0 : decode cX4_measureFromEnd 0 = .ok (.aload_n 0, 1) := by decide +kernel
theorem dX4_measureFromEnd_1 : decode cX4_measureFromEnd 1 = .ok (.getfield 22, 3) := by decide +kernel
theorem dX4_measureFromEnd_4 : decode cX4_measureFromEnd 4 = .ok (.iconst (-1), 1) := by decide +kernel
theorem dX4_measureFromEnd_5 : decode cX4_measureFromEnd 5 = .ok (.invokestatic 101, 3) := by decide +kernel
theorem dX4_measureFromEnd_8 : decode cX4_measureFromEnd 8 = .ok (.iload_n 1, 1) := by decide +kernel
theorem dX4_measureFromEnd_9 : decode cX4_measureFromEnd 9 = .ok (.sipush 1024, 3) := by decide +kernel
theorem dX4_measureFromEnd_12 : decode cX4_measureFromEnd 12 = .ok (.ior, 1) := by decide +kernel
theorem dX4_measureFromEnd_13 : decode cX4_measureFromEnd 13 = .ok (.istore_n 3, 1) := by decide +kernel
theorem dX4_measureFromEnd_14 : decode cX4_measureFromEnd 14 = .ok (.aload_n 0, 1) := by decide +kernel
theorem dX4_measureFromEnd_15 : decode cX4_measureFromEnd 15 = .ok (.getfield 22, 3) := by decide +kernel
theorem dX4_measureFromEnd_18 : decode cX4_measureFromEnd 18 = .ok (.iload_n 3, 1) := by decide +kernel
theorem dX4_measureFromEnd_19 : decode cX4_measureFromEnd 19 = .ok (.iconst 0, 1) := by decide +kernel
theorem dX4_measureFromEnd_20 : decode cX4_measureFromEnd 20 = .ok (.iastore, 1) := by decide +kernel
theorem dX4_measureFromEnd_21 : decode cX4_measureFromEnd 21 = .ok (.aload_n 0, 1) := by decide +kernel
theorem dX4_measureFromEnd_22 : decode cX4_measureFromEnd 22 = .ok (.getfield 25, 3) := by decide +kernel
theorem dX4_measureFromEnd_25 : decode cX4_measureFromEnd 25 = .ok (.iconst 0, 1) := by decide +kernel
theorem dX4_measureFromEnd_26 : decode cX4_measureFromEnd 26 = .ok (.iload_n 3, 1) := by decide +kernel
theorem dX4_measureFromEnd_27 : decode cX4_measureFromEnd 27 = .ok (.iastore, 1) := by decide +kernel
theorem dX4_measureFromEnd_28 : decode cX4_measureFromEnd 28 = .ok (.iconst 1, 1) := by decide +kernel
theorem dX4_measureFromEnd_29 : decode cX4_measureFromEnd 29 = .ok (.istore 4, 2) := by decide +kernel
theorem dX4_measureFromEnd_31 : decode cX4_measureFromEnd 31 = .ok (.iconst 0, 1) := by decide +kernel
theorem dX4_measureFromEnd_32 : decode cX4_measureFromEnd 32 = .ok (.istore 5, 2) := by decide +kernel
theorem dX4_measureFromEnd_34 : decode cX4_measureFromEnd 34 = .ok (.iload 5, 2) := by decide +kernel
theorem dX4_measureFromEnd_36 : decode cX4_measureFromEnd 36 = .ok (.iload 4, 2) := by decide +kernel
theorem dX4_measureFromEnd_38 : decode cX4_measureFromEnd 38 = .ok (.if_icmp .ge 35, 3) := by decide +kernel
theorem dX4_measureFromEnd_41 : decode cX4_measureFromEnd 41 = .ok (.aload_n 0, 1) := by decide +kernel
theorem dX4_measureFromEnd_42 : decode cX4_measureFromEnd 42 = .ok (.getfield 22, 3) := by decide +kernel
theorem dX4_measureFromEnd_45 : decode cX4_measureFromEnd 45 = .ok (.iload_n 2, 1) := by decide +kernel
theorem dX4_measureFromEnd_46 : decode cX4_measureFromEnd 46 = .ok (.iaload, 1) := by decide +kernel
theorem dX4_measureFromEnd_47 : decode cX4_measureFromEnd 47 = .ok (.iconst (-1), 1) := by decide +kernel
theorem dX4_measureFromEnd_48 : decode cX4_measureFromEnd 48 = .ok (.if_icmp .ne 25, 3) := by decide +kernel
theorem dX4_measureFromEnd_51 : decode cX4_measureFromEnd 51 = .ok (.aload_n 0, 1) := by decide +kernel
theorem dX4_measureFromEnd_52 : decode cX4_measureFromEnd 52 = .ok (.aload_n 0, 1) := by decide +kernel
theorem dX4_measureFromEnd_53 : decode cX4_measureFromEnd 53 = .ok (.getfield 25, 3) := by decide +kernel
theorem dX4_measureFromEnd_56 : decode cX4_measureFromEnd 56 = .ok (.iload 5, 2) := by decide +kernel
theorem dX4_measureFromEnd_58 : decode cX4_measureFromEnd 58 = .ok (.iaload, 1) := by decide +kernel
theorem dX4_measureFromEnd_59 : decode cX4_measureFromEnd 59 = .ok (.iload_n 1, 1) := by decide +kernel
theorem dX4_measureFromEnd_60 : decode cX4_measureFromEnd 60 = .ok (.iload 4, 2) := by decide +kernel
theorem dX4_measureFromEnd_62 : decode cX4_measureFromEnd 62 = .ok (.invokevirtual 107, 3) := by decide +kernel
theorem dX4_measureFromEnd_65 : decode cX4_measureFromEnd 65 = .ok (.istore 4, 2) := by decide +kernel
theorem dX4_measureFromEnd_67 : decode cX4_measureFromEnd 67 = .ok (.iinc 5 1, 3) := by decide +kernel
theorem dX4_measureFromEnd_70 : decode cX4_measureFromEnd 70 = .ok (.goto (-36), 3) := by decide +kernel
theorem dX4_measureFromEnd_73 : decode cX4_measureFromEnd 73 = .ok (.aload_n 0, 1) := by decide +kernel
theorem dX4_measureFromEnd_74 : decode cX4_measureFromEnd 74 = .ok (.getfield 22, 3) := by decide +kernel
theorem dX4_measureFromEnd_77 : decode cX4_measureFromEnd 77 = .ok (.iload_n 2, 1) := by decide +kernel
theorem dX4_measureFromEnd_78 : decode cX4_measureFromEnd 78 = .ok (.iaload, 1) := by decide +kernel
theorem dX4_measureFromEnd_79 : decode cX4_measureFromEnd 79 = .ok (.ireturn, 1) := by decide +kernel
theorem dX4_spread_0 : decode cX4_spread 0 = .ok (.iload_n 1, 1) := by decide +kernel
theorem dX4_spread_1 : decode cX4_spread 1 = .ok (.iload_n 2, 1) := by decide +kernel
theorem dX4_spread_2 : decode cX4_spread 2 = .ok (.iand, 1) := by decide +kernel
theorem dX4_spread_3 : decode cX4_spread 3 = .ok (.istore 4, 2) := by decide +kernel
theorem dX4_spread_5 : decode cX4_spread 5 = .ok (.iload_n 1, 1) := by decide +kernel
theorem dX4_spread_6 : decode cX4_spread 6 = .ok (.sipush 1024, 3) := by decide +kernel
theorem dX4_spread_9 : decode cX4_spread 9 = .ok (.if_icmp .lt 8, 3) := by decide +kernel
theorem dX4_spread_12 : decode cX4_spread 12 = .ok (.iload 4, 2) := by decide +kernel
theorem dX4_spread_14 : decode cX4_spread 14 = .ok (.goto 9, 3) := by decide +kernel
theorem dX4_spread_17 : decode cX4_spread 17 = .ok (.iload_n 2, 1) := by decide +kernel
theorem dX4_spread_18 : decode cX4_spread 18 = .ok (.iload 4, 2) := by decide +kernel
theorem dX4_spread_20 : decode cX4_spread 20 = .ok (.iconst (-1), 1) := by decide +kernel
theorem dX4_spread_21 : decode cX4_spread 21 = .ok (.ixor, 1) := by decide +kernel
theorem dX4_spread_22 : decode cX4_spread 22 = .ok (.iand, 1) := by decide +kernel
theorem dX4_spread_23 : decode cX4_spread 23 = .ok (.istore 5, 2) := by decide +kernel
theorem dX4_spread_25 : decode cX4_spread 25 = .ok (.iload_n 3, 1) := by decide +kernel
theorem dX4_spread_26 : decode cX4_spread 26 = .ok (.istore 6, 2) := by decide +kernel
theorem dX4_spread_28 : decode cX4_spread 28 = .ok (.iload 5, 2) := by decide +kernel
theorem dX4_spread_30 : decode cX4_spread 30 = .ok (.istore 7, 2) := by decide +kernel
theorem dX4_spread_32 : decode cX4_spread 32 = .ok (.iload 7, 2) := by decide +kernel
theorem dX4_spread_34 : decode cX4_spread 34 = .ok (.ifCond .le 83, 3) := by decide +kernel
theorem dX4_spread_37 : decode cX4_spread 37 = .ok (.iload_n 1, 1) := by decide +kernel
theorem dX4_spread_38 : decode cX4_spread 38 = .ok (.iload 7, 2) := by decide +kernel
theorem dX4_spread_40 : decode cX4_spread 40 = .ok (.ixor, 1) := by decide +kernel
theorem dX4_spread_41 : decode cX4_spread 41 = .ok (.sipush 1024, 3) := by decide +kernel
theorem dX4_spread_44 : decode cX4_spread 44 = .ok (.ixor, 1) := by decide +kernel
theorem dX4_spread_45 : decode cX4_spread 45 = .ok (.istore 8, 2) := by decide +kernel
theorem dX4_spread_47 : decode cX4_spread 47 = .ok (.aload_n 0, 1) := by decide +kernel
theorem dX4_spread_48 : decode cX4_spread 48 = .ok (.getfield 19, 3) := by decide +kernel
theorem dX4_spread_51 : decode cX4_spread 51 = .ok (.iload 7, 2) := by decide +kernel
theorem dX4_spread_53 : decode cX4_spread 53 = .ok (.baload, 1) := by decide +kernel
theorem dX4_spread_54 : decode cX4_spread 54 = .ok (.ifCond .eq 51, 3) := by decide +kernel
theorem dX4_spread_57 : decode cX4_spread 57 = .ok (.aload_n 0, 1) := by decide +kernel
theorem dX4_spread_58 : decode cX4_spread 58 = .ok (.getfield 22, 3) := by decide +kernel
theorem dX4_spread_61 : decode cX4_spread 61 = .ok (.iload 8, 2) := by decide +kernel
theorem dX4_spread_63 : decode cX4_spread 63 = .ok (.iaload, 1) := by decide +kernel
theorem dX4_spread_64 : decode cX4_spread 64 = .ok (.iconst (-1), 1) := by decide +kernel
theorem dX4_spread_65 : decode cX4_spread 65 = .ok (.if_icmp .ne 40, 3) := by decide +kernel
theorem dX4_spread_68 : decode cX4_spread 68 = .ok (.iload 6, 2) := by decide +kernel
theorem dX4_spread_70 : decode cX4_spread 70 = .ok (.aload_n 0, 1) := by decide +kernel
theorem dX4_spread_71 : decode cX4_spread 71 = .ok (.getfield 25, 3) := by decide +kernel
theorem dX4_spread_74 : decode cX4_spread 74 = .ok (.arraylength, 1) := by decide +kernel
theorem dX4_spread_75 : decode cX4_spread 75 = .ok (.if_icmp .ge 30, 3) := by decide +kernel
theorem dX4_spread_78 : decode cX4_spread 78 = .ok (.aload_n 0, 1) := by decide +kernel
theorem dX4_spread_79 : decode cX4_spread 79 = .ok (.getfield 22, 3) := by decide +kernel
theorem dX4_spread_82 : decode cX4_spread 82 = .ok (.iload 8, 2) := by decide +kernel
theorem dX4_spread_84 : decode cX4_spread 84 = .ok (.aload_n 0, 1) := by decide +kernel
theorem dX4_spread_85 : decode cX4_spread 85 = .ok (.getfield 22, 3) := by decide +kernel
theorem dX4_spread_88 : decode cX4_spread 88 = .ok (.iload_n 1, 1) := by decide +kernel
theorem dX4_spread_89 : decode cX4_spread 89 = .ok (.iaload, 1) := by decide +kernel
theorem dX4_spread_90 : decode cX4_spread 90 = .ok (.iconst 1, 1) := by decide +kernel
theorem dX4_spread_91 : decode cX4_spread 91 = .ok (.iadd, 1) := by decide +kernel
theorem dX4_spread_92 : decode cX4_spread 92 = .ok (.iastore, 1) := by decide +kernel
theorem dX4_spread_93 : decode cX4_spread 93 = .ok (.aload_n 0, 1) := by decide +kernel
theorem dX4_spread_94 : decode cX4_spread 94 = .ok (.getfield 25, 3) := by decide +kernel
theorem dX4_spread_97 : decode cX4_spread 97 = .ok (.iload 6, 2) := by decide +kernel
theorem dX4_spread_99 : decode cX4_spread 99 = .ok (.iload 8, 2) := by decide +kernel
theorem dX4_spread_101 : decode cX4_spread 101 = .ok (.iastore, 1) := by decide +kernel
theorem dX4_spread_102 : decode cX4_spread 102 = .ok (.iinc 6 1, 3) := by decide +kernel
theorem dX4_spread_105 : decode cX4_spread 105 = .ok (.iload 7, 2) := by decide +kernel
theorem dX4_spread_107 : decode cX4_spread 107 = .ok (.iconst 1, 1) := by decide +kernel
theorem dX4_spread_108 : decode cX4_spread 108 = .ok (.isub, 1) := by decide +kernel
theorem dX4_spread_109 : decode cX4_spread 109 = .ok (.iload 5, 2) := by decide +kernel
theorem dX4_spread_111 : decode cX4_spread 111 = .ok (.iand, 1) := by decide +kernel
theorem dX4_spread_112 : decode cX4_spread 112 = .ok (.istore 7, 2) := by decide +kernel
theorem dX4_spread_114 : decode cX4_spread 114 = .ok (.goto (-82), 3) := by decide +kernel
theorem dX4_spread_117 : decode cX4_spread 117 = .ok (.iload 6, 2) := by decide +kernel
theorem dX4_spread_119 : decode cX4_spread 119 = .ok (.ireturn, 1) := by decide +kernel
theorem dX4_canPair_0 : decode cX4_canPair 0 = .ok (.iconst 1, 1) := by decide +kernel
theorem dX4_canPair_1 : decode cX4_canPair 1 = .ok (.iload_n 2, 1) := by decide +kernel
theorem dX4_canPair_2 : decode cX4_canPair 2 = .ok (.ishl, 1) := by decide +kernel
theorem dX4_canPair_3 : decode cX4_canPair 3 = .ok (.iconst 1, 1) := by decide +kernel
theorem dX4_canPair_4 : decode cX4_canPair 4 = .ok (.iload_n 3, 1) := by decide +kernel
theorem dX4_canPair_5 : decode cX4_canPair 5 = .ok (.ishl, 1) := by decide +kernel
theorem dX4_canPair_6 : decode cX4_canPair 6 = .ok (.ior, 1) := by decide +kernel
theorem dX4_canPair_7 : decode cX4_canPair 7 = .ok (.istore 4, 2) := by decide +kernel
theorem dX4_canPair_9 : decode cX4_canPair 9 = .ok (.aload_n 0, 1) := by decide +kernel
theorem dX4_canPair_10 : decode cX4_canPair 10 = .ok (.getfield 15, 3) := by decide +kernel
theorem dX4_canPair_13 : decode cX4_canPair 13 = .ok (.iload 4, 2) := by decide +kernel
theorem dX4_canPair_15 : decode cX4_canPair 15 = .ok (.baload, 1) := by decide +kernel
theorem dX4_canPair_16 : decode cX4_canPair 16 = .ok (.ifCond .eq 21, 3) := by decide +kernel
theorem dX4_canPair_19 : decode cX4_canPair 19 = .ok (.aload_n 1, 1) := by decide +kernel
theorem dX4_canPair_20 : decode cX4_canPair 20 = .ok (.aload_n 0, 1) := by decide +kernel
theorem dX4_canPair_21 : decode cX4_canPair 21 = .ok (.getfield 9, 3) := by decide +kernel
theorem dX4_canPair_24 : decode cX4_canPair 24 = .ok (.iload 4, 2) := by decide +kernel
theorem dX4_canPair_26 : decode cX4_canPair 26 = .ok (.iaload, 1) := by decide +kernel
theorem dX4_canPair_27 : decode cX4_canPair 27 = .ok (.invokevirtual 48, 3) := by decide +kernel
theorem dX4_canPair_30 : decode cX4_canPair 30 = .ok (.ifCond .eq 7, 3) := by decide +kernel
theorem dX4_canPair_33 : decode cX4_canPair 33 = .ok (.iconst 1, 1) := by decide +kernel
theorem dX4_canPair_34 : decode cX4_canPair 34 = .ok (.goto 4, 3) := by decide +kernel
theorem dX4_canPair_37 : decode cX4_canPair 37 = .ok (.iconst 0, 1) := by decide +kernel
theorem dX4_canPair_38 : decode cX4_canPair 38 = .ok (.ireturn, 1) := by decide +kernel
