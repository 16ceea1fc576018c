theorem d_Ma_init_0 : decode prog_6_method_1_code 0 = .ok (.aload_n 0, 1) := by decide +kernel
theorem d_Ma_init_1 : decode prog_6_method_1_code 1 = .ok (.invokespecial 3, 3) := by decide +kernel
theorem d_Ma_init_4 : decode prog_6_method_1_code 4 = .ok (.aload_n 0, 1) := by decide +kernel
theorem d_Ma_init_5 : decode prog_6_method_1_code 5 = .ok (.iconst 4, 1) := by decide +kernel
theorem d_Ma_init_6 : decode prog_6_method_1_code 6 = .ok (.newarray .int, 2) := by decide +kernel
theorem d_Ma_init_8 : decode prog_6_method_1_code 8 = .ok (.putfield 11, 3) := by decide +kernel
theorem d_Ma_init_11 : decode prog_6_method_1_code 11 = .ok (.aload_n 0, 1) := by decide +kernel
theorem d_Ma_init_12 : decode prog_6_method_1_code 12 = .ok (.aload_n 1, 1) := by decide +kernel
theorem d_Ma_init_13 : decode prog_6_method_1_code 13 = .ok (.putfield 17, 3) := by decide +kernel
theorem d_Ma_init_16 : decode prog_6_method_1_code 16 = .ok (.aload_n 0, 1) := by decide +kernel
theorem d_Ma_init_17 : decode prog_6_method_1_code 17 = .ok (.aload_n 2, 1) := by decide +kernel
theorem d_Ma_init_18 : decode prog_6_method_1_code 18 = .ok (.putfield 21, 3) := by decide +kernel
theorem d_Ma_init_21 : decode prog_6_method_1_code 21 = .ok (.aload_n 0, 1) := by decide +kernel
theorem d_Ma_init_22 : decode prog_6_method_1_code 22 = .ok (.aload_n 3, 1) := by decide +kernel
theorem d_Ma_init_23 : decode prog_6_method_1_code 23 = .ok (.putfield 25, 3) := by decide +kernel
theorem d_Ma_init_26 : decode prog_6_method_1_code 26 = .ok (.aload_n 0, 1) := by decide +kernel
theorem d_Ma_init_27 : decode prog_6_method_1_code 27 = .ok (.aload 4, 2) := by decide +kernel
theorem d_Ma_init_29 : decode prog_6_method_1_code 29 = .ok (.putfield 29, 3) := by decide +kernel
theorem d_Ma_init_32 : decode prog_6_method_1_code 32 = .ok (.return_, 1) := by decide +kernel
theorem d_Ma_entry_0 : decode prog_6_method_4_code 0 = .ok (.aload_n 0, 1) := by decide +kernel
theorem d_Ma_entry_1 : decode prog_6_method_4_code 1 = .ok (.getfield 29, 3) := by decide +kernel
theorem d_Ma_entry_4 : decode prog_6_method_4_code 4 = .ok (.iload_n 1, 1) := by decide +kernel
theorem d_Ma_entry_5 : decode prog_6_method_4_code 5 = .ok (.aaload, 1) := by decide +kernel
theorem d_Ma_entry_6 : decode prog_6_method_4_code 6 = .ok (.getfield 41, 3) := by decide +kernel
theorem d_Ma_entry_9 : decode prog_6_method_4_code 9 = .ok (.aload_n 0, 1) := by decide +kernel
theorem d_Ma_entry_10 : decode prog_6_method_4_code 10 = .ok (.getfield 11, 3) := by decide +kernel
theorem d_Ma_entry_13 : decode prog_6_method_4_code 13 = .ok (.iload_n 1, 1) := by decide +kernel
theorem d_Ma_entry_14 : decode prog_6_method_4_code 14 = .ok (.iaload, 1) := by decide +kernel
theorem d_Ma_entry_15 : decode prog_6_method_4_code 15 = .ok (.sipush 256, 3) := by decide +kernel
theorem d_Ma_entry_18 : decode prog_6_method_4_code 18 = .ok (.imul, 1) := by decide +kernel
theorem d_Ma_entry_19 : decode prog_6_method_4_code 19 = .ok (.iload_n 2, 1) := by decide +kernel
theorem d_Ma_entry_20 : decode prog_6_method_4_code 20 = .ok (.iadd, 1) := by decide +kernel
theorem d_Ma_entry_21 : decode prog_6_method_4_code 21 = .ok (.iaload, 1) := by decide +kernel
theorem d_Ma_entry_22 : decode prog_6_method_4_code 22 = .ok (.ireturn, 1) := by decide +kernel
theorem d_Ma_breakingOffice_0 : decode prog_6_method_13_code 0 = .ok (.iconst 0, 1) := by decide +kernel
theorem d_Ma_breakingOffice_1 : decode prog_6_method_13_code 1 = .ok (.istore_n 3, 1) := by decide +kernel
theorem d_Ma_breakingOffice_2 : decode prog_6_method_13_code 2 = .ok (.iload_n 3, 1) := by decide +kernel
theorem d_Ma_breakingOffice_3 : decode prog_6_method_13_code 3 = .ok (.iconst 4, 1) := by decide +kernel
theorem d_Ma_breakingOffice_4 : decode prog_6_method_13_code 4 = .ok (.if_icmp .ge 39, 3) := by decide +kernel
theorem d_Ma_breakingOffice_7 : decode prog_6_method_13_code 7 = .ok (.aload_n 0, 1) := by decide +kernel
theorem d_Ma_breakingOffice_8 : decode prog_6_method_13_code 8 = .ok (.iload_n 3, 1) := by decide +kernel
theorem d_Ma_breakingOffice_9 : decode prog_6_method_13_code 9 = .ok (.iload_n 3, 1) := by decide +kernel
theorem d_Ma_breakingOffice_10 : decode prog_6_method_13_code 10 = .ok (.iload_n 1, 1) := by decide +kernel
theorem d_Ma_breakingOffice_11 : decode prog_6_method_13_code 11 = .ok (.iload_n 2, 1) := by decide +kernel
theorem d_Ma_breakingOffice_12 : decode prog_6_method_13_code 12 = .ok (.ior, 1) := by decide +kernel
theorem d_Ma_breakingOffice_13 : decode prog_6_method_13_code 13 = .ok (.invokestatic 44, 3) := by decide +kernel
theorem d_Ma_breakingOffice_16 : decode prog_6_method_13_code 16 = .ok (.invokevirtual 50, 3) := by decide +kernel
theorem d_Ma_breakingOffice_19 : decode prog_6_method_13_code 19 = .ok (.sipush 255, 3) := by decide +kernel
theorem d_Ma_breakingOffice_22 : decode prog_6_method_13_code 22 = .ok (.iand, 1) := by decide +kernel
theorem d_Ma_breakingOffice_23 : decode prog_6_method_13_code 23 = .ok (.istore 4, 2) := by decide +kernel
theorem d_Ma_breakingOffice_25 : decode prog_6_method_13_code 25 = .ok (.iload 4, 2) := by decide +kernel
theorem d_Ma_breakingOffice_27 : decode prog_6_method_13_code 27 = .ok (.iload_n 3, 1) := by decide +kernel
theorem d_Ma_breakingOffice_28 : decode prog_6_method_13_code 28 = .ok (.iload_n 1, 1) := by decide +kernel
theorem d_Ma_breakingOffice_29 : decode prog_6_method_13_code 29 = .ok (.invokestatic 44, 3) := by decide +kernel
theorem d_Ma_breakingOffice_32 : decode prog_6_method_13_code 32 = .ok (.if_icmp .eq 5, 3) := by decide +kernel
theorem d_Ma_breakingOffice_35 : decode prog_6_method_13_code 35 = .ok (.iload_n 3, 1) := by decide +kernel
theorem d_Ma_breakingOffice_36 : decode prog_6_method_13_code 36 = .ok (.ireturn, 1) := by decide +kernel
theorem d_Ma_breakingOffice_37 : decode prog_6_method_13_code 37 = .ok (.iinc 3 1, 3) := by decide +kernel
theorem d_Ma_breakingOffice_40 : decode prog_6_method_13_code 40 = .ok (.goto (-38), 3) := by decide +kernel
theorem d_Ma_breakingOffice_43 : decode prog_6_method_13_code 43 = .ok (.iconst (-1), 1) := by decide +kernel
theorem d_Ma_breakingOffice_44 : decode prog_6_method_13_code 44 = .ok (.ireturn, 1) := by decide +kernel
theorem d_Ma_isPairTaken_0 : decode prog_6_method_16_code 0 = .ok (.iconst 0, 1) := by decide +kernel
theorem d_Ma_isPairTaken_1 : decode prog_6_method_16_code 1 = .ok (.istore_n 3, 1) := by decide +kernel
theorem d_Ma_isPairTaken_2 : decode prog_6_method_16_code 2 = .ok (.iload_n 3, 1) := by decide +kernel
theorem d_Ma_isPairTaken_3 : decode prog_6_method_16_code 3 = .ok (.iconst 4, 1) := by decide +kernel
theorem d_Ma_isPairTaken_4 : decode prog_6_method_16_code 4 = .ok (.if_icmp .ge 39, 3) := by decide +kernel
theorem d_Ma_isPairTaken_7 : decode prog_6_method_16_code 7 = .ok (.iload_n 3, 1) := by decide +kernel
theorem d_Ma_isPairTaken_8 : decode prog_6_method_16_code 8 = .ok (.iload_n 1, 1) := by decide +kernel
theorem d_Ma_isPairTaken_9 : decode prog_6_method_16_code 9 = .ok (.invokestatic 44, 3) := by decide +kernel
theorem d_Ma_isPairTaken_12 : decode prog_6_method_16_code 12 = .ok (.istore 4, 2) := by decide +kernel
theorem d_Ma_isPairTaken_14 : decode prog_6_method_16_code 14 = .ok (.iload 4, 2) := by decide +kernel
theorem d_Ma_isPairTaken_16 : decode prog_6_method_16_code 16 = .ok (.aload_n 0, 1) := by decide +kernel
theorem d_Ma_isPairTaken_17 : decode prog_6_method_16_code 17 = .ok (.iload_n 3, 1) := by decide +kernel
theorem d_Ma_isPairTaken_18 : decode prog_6_method_16_code 18 = .ok (.iload 4, 2) := by decide +kernel
theorem d_Ma_isPairTaken_20 : decode prog_6_method_16_code 20 = .ok (.iload_n 3, 1) := by decide +kernel
theorem d_Ma_isPairTaken_21 : decode prog_6_method_16_code 21 = .ok (.iload_n 2, 1) := by decide +kernel
theorem d_Ma_isPairTaken_22 : decode prog_6_method_16_code 22 = .ok (.invokestatic 44, 3) := by decide +kernel
theorem d_Ma_isPairTaken_25 : decode prog_6_method_16_code 25 = .ok (.ior, 1) := by decide +kernel
theorem d_Ma_isPairTaken_26 : decode prog_6_method_16_code 26 = .ok (.invokevirtual 50, 3) := by decide +kernel
theorem d_Ma_isPairTaken_29 : decode prog_6_method_16_code 29 = .ok (.iconst (-1), 1) := by decide +kernel
theorem d_Ma_isPairTaken_30 : decode prog_6_method_16_code 30 = .ok (.ixor, 1) := by decide +kernel
theorem d_Ma_isPairTaken_31 : decode prog_6_method_16_code 31 = .ok (.iand, 1) := by decide +kernel
theorem d_Ma_isPairTaken_32 : decode prog_6_method_16_code 32 = .ok (.ifCond .eq 5, 3) := by decide +kernel
theorem d_Ma_isPairTaken_35 : decode prog_6_method_16_code 35 = .ok (.iconst 0, 1) := by decide +kernel
theorem d_Ma_isPairTaken_36 : decode prog_6_method_16_code 36 = .ok (.ireturn, 1) := by decide +kernel
theorem d_Ma_isPairTaken_37 : decode prog_6_method_16_code 37 = .ok (.iinc 3 1, 3) := by decide +kernel
theorem d_Ma_isPairTaken_40 : decode prog_6_method_16_code 40 = .ok (.goto (-38), 3) := by decide +kernel
theorem d_Ma_isPairTaken_43 : decode prog_6_method_16_code 43 = .ok (.iconst 1, 1) := by decide +kernel
theorem d_Ma_isPairTaken_44 : decode prog_6_method_16_code 44 = .ok (.ireturn, 1) := by decide +kernel
theorem d_Ma_rankOfCouple_0 : decode prog_6_method_10_code 0 = .ok (.aload_n 0, 1) := by decide +kernel
theorem d_Ma_rankOfCouple_1 : decode prog_6_method_10_code 1 = .ok (.getfield 17, 3) := by decide +kernel
theorem d_Ma_rankOfCouple_4 : decode prog_6_method_10_code 4 = .ok (.getfield 59, 3) := by decide +kernel
theorem d_Ma_rankOfCouple_7 : decode prog_6_method_10_code 7 = .ok (.aload_n 0, 1) := by decide +kernel
theorem d_Ma_rankOfCouple_8 : decode prog_6_method_10_code 8 = .ok (.getfield 25, 3) := by decide +kernel
theorem d_Ma_rankOfCouple_11 : decode prog_6_method_10_code 11 = .ok (.getfield 90, 3) := by decide +kernel
theorem d_Ma_rankOfCouple_14 : decode prog_6_method_10_code 14 = .ok (.iload_n 1, 1) := by decide +kernel
theorem d_Ma_rankOfCouple_15 : decode prog_6_method_10_code 15 = .ok (.iaload, 1) := by decide +kernel
theorem d_Ma_rankOfCouple_16 : decode prog_6_method_10_code 16 = .ok (.iaload, 1) := by decide +kernel
theorem d_Ma_rankOfCouple_17 : decode prog_6_method_10_code 17 = .ok (.aload_n 0, 1) := by decide +kernel
theorem d_Ma_rankOfCouple_18 : decode prog_6_method_10_code 18 = .ok (.getfield 17, 3) := by decide +kernel
theorem d_Ma_rankOfCouple_21 : decode prog_6_method_10_code 21 = .ok (.getfield 59, 3) := by decide +kernel
theorem d_Ma_rankOfCouple_24 : decode prog_6_method_10_code 24 = .ok (.aload_n 0, 1) := by decide +kernel
theorem d_Ma_rankOfCouple_25 : decode prog_6_method_10_code 25 = .ok (.getfield 25, 3) := by decide +kernel
theorem d_Ma_rankOfCouple_28 : decode prog_6_method_10_code 28 = .ok (.getfield 93, 3) := by decide +kernel
theorem d_Ma_rankOfCouple_31 : decode prog_6_method_10_code 31 = .ok (.iload_n 1, 1) := by decide +kernel
theorem d_Ma_rankOfCouple_32 : decode prog_6_method_10_code 32 = .ok (.iaload, 1) := by decide +kernel
theorem d_Ma_rankOfCouple_33 : decode prog_6_method_10_code 33 = .ok (.iaload, 1) := by decide +kernel
theorem d_Ma_rankOfCouple_34 : decode prog_6_method_10_code 34 = .ok (.ior, 1) := by decide +kernel
theorem d_Ma_rankOfCouple_35 : decode prog_6_method_10_code 35 = .ok (.istore_n 3, 1) := by decide +kernel
theorem d_Ma_rankOfCouple_36 : decode prog_6_method_10_code 36 = .ok (.aload_n 0, 1) := by decide +kernel
theorem d_Ma_rankOfCouple_37 : decode prog_6_method_10_code 37 = .ok (.getfield 25, 3) := by decide +kernel
theorem d_Ma_rankOfCouple_40 : decode prog_6_method_10_code 40 = .ok (.iload_n 1, 1) := by decide +kernel
theorem d_Ma_rankOfCouple_41 : decode prog_6_method_10_code 41 = .ok (.iload_n 2, 1) := by decide +kernel
theorem d_Ma_rankOfCouple_42 : decode prog_6_method_10_code 42 = .ok (.iload_n 3, 1) := by decide +kernel
theorem d_Ma_rankOfCouple_43 : decode prog_6_method_10_code 43 = .ok (.iand, 1) := by decide +kernel
theorem d_Ma_rankOfCouple_44 : decode prog_6_method_10_code 44 = .ok (.invokevirtual 96, 3) := by decide +kernel
theorem d_Ma_rankOfCouple_47 : decode prog_6_method_10_code 47 = .ok (.ireturn, 1) := by decide +kernel
theorem d_Ma_breakingPair_0 : decode prog_6_method_15_code 0 = .ok (.aload_n 0, 1) := by decide +kernel
theorem d_Ma_breakingPair_1 : decode prog_6_method_15_code 1 = .ok (.iload_n 1, 1) := by decide +kernel
theorem d_Ma_breakingPair_2 : decode prog_6_method_15_code 2 = .ok (.iload_n 2, 1) := by decide +kernel
theorem d_Ma_breakingPair_3 : decode prog_6_method_15_code 3 = .ok (.invokevirtual 87, 3) := by decide +kernel
theorem d_Ma_breakingPair_6 : decode prog_6_method_15_code 6 = .ok (.istore 4, 2) := by decide +kernel
theorem d_Ma_breakingPair_8 : decode prog_6_method_15_code 8 = .ok (.aload_n 0, 1) := by decide +kernel
theorem d_Ma_breakingPair_9 : decode prog_6_method_15_code 9 = .ok (.getfield 17, 3) := by decide +kernel
theorem d_Ma_breakingPair_12 : decode prog_6_method_15_code 12 = .ok (.getfield 111, 3) := by decide +kernel
theorem d_Ma_breakingPair_15 : decode prog_6_method_15_code 15 = .ok (.aload_n 0, 1) := by decide +kernel
theorem d_Ma_breakingPair_16 : decode prog_6_method_15_code 16 = .ok (.getfield 25, 3) := by decide +kernel
theorem d_Ma_breakingPair_19 : decode prog_6_method_15_code 19 = .ok (.getfield 90, 3) := by decide +kernel
theorem d_Ma_breakingPair_22 : decode prog_6_method_15_code 22 = .ok (.iload_n 1, 1) := by decide +kernel
theorem d_Ma_breakingPair_23 : decode prog_6_method_15_code 23 = .ok (.iaload, 1) := by decide +kernel
theorem d_Ma_breakingPair_24 : decode prog_6_method_15_code 24 = .ok (.iaload, 1) := by decide +kernel
theorem d_Ma_breakingPair_25 : decode prog_6_method_15_code 25 = .ok (.aload_n 0, 1) := by decide +kernel
theorem d_Ma_breakingPair_26 : decode prog_6_method_15_code 26 = .ok (.getfield 17, 3) := by decide +kernel
theorem d_Ma_breakingPair_29 : decode prog_6_method_15_code 29 = .ok (.getfield 111, 3) := by decide +kernel
theorem d_Ma_breakingPair_32 : decode prog_6_method_15_code 32 = .ok (.aload_n 0, 1) := by decide +kernel
theorem d_Ma_breakingPair_33 : decode prog_6_method_15_code 33 = .ok (.getfield 25, 3) := by decide +kernel
theorem d_Ma_breakingPair_36 : decode prog_6_method_15_code 36 = .ok (.getfield 93, 3) := by decide +kernel
theorem d_Ma_breakingPair_39 : decode prog_6_method_15_code 39 = .ok (.iload_n 1, 1) := by decide +kernel
theorem d_Ma_breakingPair_40 : decode prog_6_method_15_code 40 = .ok (.iaload, 1) := by decide +kernel
theorem d_Ma_breakingPair_41 : decode prog_6_method_15_code 41 = .ok (.iaload, 1) := by decide +kernel
theorem d_Ma_breakingPair_42 : decode prog_6_method_15_code 42 = .ok (.ior, 1) := by decide +kernel
theorem d_Ma_breakingPair_43 : decode prog_6_method_15_code 43 = .ok (.istore 5, 2) := by decide +kernel
theorem d_Ma_breakingPair_45 : decode prog_6_method_15_code 45 = .ok (.iconst 0, 1) := by decide +kernel
theorem d_Ma_breakingPair_46 : decode prog_6_method_15_code 46 = .ok (.istore 6, 2) := by decide +kernel
theorem d_Ma_breakingPair_48 : decode prog_6_method_15_code 48 = .ok (.iload 6, 2) := by decide +kernel
theorem d_Ma_breakingPair_50 : decode prog_6_method_15_code 50 = .ok (.iload 4, 2) := by decide +kernel
theorem d_Ma_breakingPair_52 : decode prog_6_method_15_code 52 = .ok (.if_icmp .ge 40, 3) := by decide +kernel
theorem d_Ma_breakingPair_55 : decode prog_6_method_15_code 55 = .ok (.aload_n 0, 1) := by decide +kernel
theorem d_Ma_breakingPair_56 : decode prog_6_method_15_code 56 = .ok (.aload_n 0, 1) := by decide +kernel
theorem d_Ma_breakingPair_57 : decode prog_6_method_15_code 57 = .ok (.getfield 25, 3) := by decide +kernel
theorem d_Ma_breakingPair_60 : decode prog_6_method_15_code 60 = .ok (.getfield 114, 3) := by decide +kernel
theorem d_Ma_breakingPair_63 : decode prog_6_method_15_code 63 = .ok (.iload_n 1, 1) := by decide +kernel
theorem d_Ma_breakingPair_64 : decode prog_6_method_15_code 64 = .ok (.bipush 8, 2) := by decide +kernel
theorem d_Ma_breakingPair_66 : decode prog_6_method_15_code 66 = .ok (.imul, 1) := by decide +kernel
theorem d_Ma_breakingPair_67 : decode prog_6_method_15_code 67 = .ok (.iload 6, 2) := by decide +kernel
theorem d_Ma_breakingPair_69 : decode prog_6_method_15_code 69 = .ok (.iadd, 1) := by decide +kernel
theorem d_Ma_breakingPair_70 : decode prog_6_method_15_code 70 = .ok (.iaload, 1) := by decide +kernel
theorem d_Ma_breakingPair_71 : decode prog_6_method_15_code 71 = .ok (.iload_n 3, 1) := by decide +kernel
theorem d_Ma_breakingPair_72 : decode prog_6_method_15_code 72 = .ok (.iload 5, 2) := by decide +kernel
theorem d_Ma_breakingPair_74 : decode prog_6_method_15_code 74 = .ok (.iconst (-1), 1) := by decide +kernel
theorem d_Ma_breakingPair_75 : decode prog_6_method_15_code 75 = .ok (.ixor, 1) := by decide +kernel
theorem d_Ma_breakingPair_76 : decode prog_6_method_15_code 76 = .ok (.iand, 1) := by decide +kernel
theorem d_Ma_breakingPair_77 : decode prog_6_method_15_code 77 = .ok (.invokevirtual 117, 3) := by decide +kernel
theorem d_Ma_breakingPair_80 : decode prog_6_method_15_code 80 = .ok (.ifCond .eq 6, 3) := by decide +kernel
theorem d_Ma_breakingPair_83 : decode prog_6_method_15_code 83 = .ok (.iload 6, 2) := by decide +kernel
theorem d_Ma_breakingPair_85 : decode prog_6_method_15_code 85 = .ok (.ireturn, 1) := by decide +kernel
theorem d_Ma_breakingPair_86 : decode prog_6_method_15_code 86 = .ok (.iinc 6 1, 3) := by decide +kernel
theorem d_Ma_breakingPair_89 : decode prog_6_method_15_code 89 = .ok (.goto (-41), 3) := by decide +kernel
theorem d_Ma_breakingPair_92 : decode prog_6_method_15_code 92 = .ok (.iconst (-1), 1) := by decide +kernel
theorem d_Ma_breakingPair_93 : decode prog_6_method_15_code 93 = .ok (.ireturn, 1) := by decide +kernel
theorem d_Ma_couplesHavePairs_0 : decode prog_6_method_9_code 0 = .ok (.iconst 0, 1) := by decide +kernel
theorem d_Ma_couplesHavePairs_1 : decode prog_6_method_9_code 1 = .ok (.istore_n 2, 1) := by decide +kernel
theorem d_Ma_couplesHavePairs_2 : decode prog_6_method_9_code 2 = .ok (.iload_n 2, 1) := by decide +kernel
theorem d_Ma_couplesHavePairs_3 : decode prog_6_method_9_code 3 = .ok (.aload_n 0, 1) := by decide +kernel
theorem d_Ma_couplesHavePairs_4 : decode prog_6_method_9_code 4 = .ok (.getfield 25, 3) := by decide +kernel
theorem d_Ma_couplesHavePairs_7 : decode prog_6_method_9_code 7 = .ok (.getfield 84, 3) := by decide +kernel
theorem d_Ma_couplesHavePairs_10 : decode prog_6_method_9_code 10 = .ok (.if_icmp .ge 21, 3) := by decide +kernel
theorem d_Ma_couplesHavePairs_13 : decode prog_6_method_9_code 13 = .ok (.aload_n 0, 1) := by decide +kernel
theorem d_Ma_couplesHavePairs_14 : decode prog_6_method_9_code 14 = .ok (.iload_n 2, 1) := by decide +kernel
theorem d_Ma_couplesHavePairs_15 : decode prog_6_method_9_code 15 = .ok (.iload_n 1, 1) := by decide +kernel
theorem d_Ma_couplesHavePairs_16 : decode prog_6_method_9_code 16 = .ok (.invokevirtual 87, 3) := by decide +kernel
theorem d_Ma_couplesHavePairs_19 : decode prog_6_method_9_code 19 = .ok (.iconst (-1), 1) := by decide +kernel
theorem d_Ma_couplesHavePairs_20 : decode prog_6_method_9_code 20 = .ok (.if_icmp .ne 5, 3) := by decide +kernel
theorem d_Ma_couplesHavePairs_23 : decode prog_6_method_9_code 23 = .ok (.iconst 0, 1) := by decide +kernel
theorem d_Ma_couplesHavePairs_24 : decode prog_6_method_9_code 24 = .ok (.ireturn, 1) := by decide +kernel
theorem d_Ma_couplesHavePairs_25 : decode prog_6_method_9_code 25 = .ok (.iinc 2 1, 3) := by decide +kernel
theorem d_Ma_couplesHavePairs_28 : decode prog_6_method_9_code 28 = .ok (.goto (-26), 3) := by decide +kernel
theorem d_Ma_couplesHavePairs_31 : decode prog_6_method_9_code 31 = .ok (.iconst 1, 1) := by decide +kernel
theorem d_Ma_couplesHavePairs_32 : decode prog_6_method_9_code 32 = .ok (.ireturn, 1) := by decide +kernel
theorem d_Ma_isTakenWhole_0 : decode prog_6_method_8_code 0 = .ok (.iconst 0, 1) := by decide +kernel
theorem d_Ma_isTakenWhole_1 : decode prog_6_method_8_code 1 = .ok (.istore_n 2, 1) := by decide +kernel
theorem d_Ma_isTakenWhole_2 : decode prog_6_method_8_code 2 = .ok (.iload_n 2, 1) := by decide +kernel
theorem d_Ma_isTakenWhole_3 : decode prog_6_method_8_code 3 = .ok (.iconst 4, 1) := by decide +kernel
theorem d_Ma_isTakenWhole_4 : decode prog_6_method_8_code 4 = .ok (.if_icmp .ge 31, 3) := by decide +kernel
theorem d_Ma_isTakenWhole_7 : decode prog_6_method_8_code 7 = .ok (.iload_n 2, 1) := by decide +kernel
theorem d_Ma_isTakenWhole_8 : decode prog_6_method_8_code 8 = .ok (.iload_n 1, 1) := by decide +kernel
theorem d_Ma_isTakenWhole_9 : decode prog_6_method_8_code 9 = .ok (.invokestatic 44, 3) := by decide +kernel
theorem d_Ma_isTakenWhole_12 : decode prog_6_method_8_code 12 = .ok (.istore_n 3, 1) := by decide +kernel
theorem d_Ma_isTakenWhole_13 : decode prog_6_method_8_code 13 = .ok (.aload_n 0, 1) := by decide +kernel
theorem d_Ma_isTakenWhole_14 : decode prog_6_method_8_code 14 = .ok (.iload_n 2, 1) := by decide +kernel
theorem d_Ma_isTakenWhole_15 : decode prog_6_method_8_code 15 = .ok (.iload_n 3, 1) := by decide +kernel
theorem d_Ma_isTakenWhole_16 : decode prog_6_method_8_code 16 = .ok (.invokevirtual 50, 3) := by decide +kernel
theorem d_Ma_isTakenWhole_19 : decode prog_6_method_8_code 19 = .ok (.sipush 255, 3) := by decide +kernel
theorem d_Ma_isTakenWhole_22 : decode prog_6_method_8_code 22 = .ok (.iand, 1) := by decide +kernel
theorem d_Ma_isTakenWhole_23 : decode prog_6_method_8_code 23 = .ok (.iload_n 3, 1) := by decide +kernel
theorem d_Ma_isTakenWhole_24 : decode prog_6_method_8_code 24 = .ok (.if_icmp .eq 5, 3) := by decide +kernel
theorem d_Ma_isTakenWhole_27 : decode prog_6_method_8_code 27 = .ok (.iconst 0, 1) := by decide +kernel
theorem d_Ma_isTakenWhole_28 : decode prog_6_method_8_code 28 = .ok (.ireturn, 1) := by decide +kernel
theorem d_Ma_isTakenWhole_29 : decode prog_6_method_8_code 29 = .ok (.iinc 2 1, 3) := by decide +kernel
theorem d_Ma_isTakenWhole_32 : decode prog_6_method_8_code 32 = .ok (.goto (-30), 3) := by decide +kernel
theorem d_Ma_isTakenWhole_35 : decode prog_6_method_8_code 35 = .ok (.iconst 1, 1) := by decide +kernel
theorem d_Ma_isTakenWhole_36 : decode prog_6_method_8_code 36 = .ok (.ireturn, 1) := by decide +kernel
theorem d_Ma_isFree_0 : decode prog_6_method_7_code 0 = .ok (.iconst 0, 1) := by decide +kernel
theorem d_Ma_isFree_1 : decode prog_6_method_7_code 1 = .ok (.istore_n 3, 1) := by decide +kernel
theorem d_Ma_isFree_2 : decode prog_6_method_7_code 2 = .ok (.iload_n 3, 1) := by decide +kernel
theorem d_Ma_isFree_3 : decode prog_6_method_7_code 3 = .ok (.aload_n 0, 1) := by decide +kernel
theorem d_Ma_isFree_4 : decode prog_6_method_7_code 4 = .ok (.getfield 17, 3) := by decide +kernel
theorem d_Ma_isFree_7 : decode prog_6_method_7_code 7 = .ok (.getfield 68, 3) := by decide +kernel
theorem d_Ma_isFree_10 : decode prog_6_method_7_code 10 = .ok (.if_icmp .ge 51, 3) := by decide +kernel
theorem d_Ma_isFree_13 : decode prog_6_method_7_code 13 = .ok (.iload_n 1, 1) := by decide +kernel
theorem d_Ma_isFree_14 : decode prog_6_method_7_code 14 = .ok (.iload_n 3, 1) := by decide +kernel
theorem d_Ma_isFree_15 : decode prog_6_method_7_code 15 = .ok (.iushr, 1) := by decide +kernel
theorem d_Ma_isFree_16 : decode prog_6_method_7_code 16 = .ok (.iconst 1, 1) := by decide +kernel
theorem d_Ma_isFree_17 : decode prog_6_method_7_code 17 = .ok (.iand, 1) := by decide +kernel
theorem d_Ma_isFree_18 : decode prog_6_method_7_code 18 = .ok (.ifCond .eq 37, 3) := by decide +kernel
theorem d_Ma_isFree_21 : decode prog_6_method_7_code 21 = .ok (.aload_n 0, 1) := by decide +kernel
theorem d_Ma_isFree_22 : decode prog_6_method_7_code 22 = .ok (.getfield 21, 3) := by decide +kernel
theorem d_Ma_isFree_25 : decode prog_6_method_7_code 25 = .ok (.getfield 69, 3) := by decide +kernel
theorem d_Ma_isFree_28 : decode prog_6_method_7_code 28 = .ok (.iload_n 3, 1) := by decide +kernel
theorem d_Ma_isFree_29 : decode prog_6_method_7_code 29 = .ok (.iaload, 1) := by decide +kernel
theorem d_Ma_isFree_30 : decode prog_6_method_7_code 30 = .ok (.iconst (-1), 1) := by decide +kernel
theorem d_Ma_isFree_31 : decode prog_6_method_7_code 31 = .ok (.if_icmp .ne 24, 3) := by decide +kernel
theorem d_Ma_isFree_34 : decode prog_6_method_7_code 34 = .ok (.aload_n 0, 1) := by decide +kernel
theorem d_Ma_isFree_35 : decode prog_6_method_7_code 35 = .ok (.getfield 21, 3) := by decide +kernel
theorem d_Ma_isFree_38 : decode prog_6_method_7_code 38 = .ok (.aload_n 0, 1) := by decide +kernel
theorem d_Ma_isFree_39 : decode prog_6_method_7_code 39 = .ok (.getfield 17, 3) := by decide +kernel
theorem d_Ma_isFree_42 : decode prog_6_method_7_code 42 = .ok (.getfield 72, 3) := by decide +kernel
theorem d_Ma_isFree_45 : decode prog_6_method_7_code 45 = .ok (.iload_n 3, 1) := by decide +kernel
theorem d_Ma_isFree_46 : decode prog_6_method_7_code 46 = .ok (.iaload, 1) := by decide +kernel
theorem d_Ma_isFree_47 : decode prog_6_method_7_code 47 = .ok (.invokevirtual 75, 3) := by decide +kernel
theorem d_Ma_isFree_50 : decode prog_6_method_7_code 50 = .ok (.ifCond .eq 5, 3) := by decide +kernel
theorem d_Ma_isFree_53 : decode prog_6_method_7_code 53 = .ok (.iconst 0, 1) := by decide +kernel
theorem d_Ma_isFree_54 : decode prog_6_method_7_code 54 = .ok (.ireturn, 1) := by decide +kernel
theorem d_Ma_isFree_55 : decode prog_6_method_7_code 55 = .ok (.iinc 3 1, 3) := by decide +kernel
theorem d_Ma_isFree_58 : decode prog_6_method_7_code 58 = .ok (.goto (-56), 3) := by decide +kernel
theorem d_Ma_isFree_61 : decode prog_6_method_7_code 61 = .ok (.aload_n 0, 1) := by decide +kernel
theorem d_Ma_isFree_62 : decode prog_6_method_7_code 62 = .ok (.iload_n 2, 1) := by decide +kernel
theorem d_Ma_isFree_63 : decode prog_6_method_7_code 63 = .ok (.invokevirtual 78, 3) := by decide +kernel
theorem d_Ma_isFree_66 : decode prog_6_method_7_code 66 = .ok (.ifCond .eq 15, 3) := by decide +kernel
theorem d_Ma_isFree_69 : decode prog_6_method_7_code 69 = .ok (.aload_n 0, 1) := by decide +kernel
theorem d_Ma_isFree_70 : decode prog_6_method_7_code 70 = .ok (.iload_n 1, 1) := by decide +kernel
theorem d_Ma_isFree_71 : decode prog_6_method_7_code 71 = .ok (.invokevirtual 81, 3) := by decide +kernel
theorem d_Ma_isFree_74 : decode prog_6_method_7_code 74 = .ok (.ifCond .eq 7, 3) := by decide +kernel
theorem d_Ma_isFree_77 : decode prog_6_method_7_code 77 = .ok (.iconst 1, 1) := by decide +kernel
theorem d_Ma_isFree_78 : decode prog_6_method_7_code 78 = .ok (.goto 4, 3) := by decide +kernel
theorem d_Ma_isFree_81 : decode prog_6_method_7_code 81 = .ok (.iconst 0, 1) := by decide +kernel
theorem d_Ma_isFree_82 : decode prog_6_method_7_code 82 = .ok (.ireturn, 1) := by decide +kernel
theorem d_Ma_isMatching_0 : decode prog_6_method_6_code 0 = .ok (.iconst 0, 1) := by decide +kernel
theorem d_Ma_isMatching_1 : decode prog_6_method_6_code 1 = .ok (.istore_n 2, 1) := by decide +kernel
theorem d_Ma_isMatching_2 : decode prog_6_method_6_code 2 = .ok (.iload_n 2, 1) := by decide +kernel
theorem d_Ma_isMatching_3 : decode prog_6_method_6_code 3 = .ok (.aload_n 0, 1) := by decide +kernel
theorem d_Ma_isMatching_4 : decode prog_6_method_6_code 4 = .ok (.getfield 21, 3) := by decide +kernel
theorem d_Ma_isMatching_7 : decode prog_6_method_6_code 7 = .ok (.getfield 53, 3) := by decide +kernel
theorem d_Ma_isMatching_10 : decode prog_6_method_6_code 10 = .ok (.if_icmp .ge 29, 3) := by decide +kernel
theorem d_Ma_isMatching_13 : decode prog_6_method_6_code 13 = .ok (.iload_n 1, 1) := by decide +kernel
theorem d_Ma_isMatching_14 : decode prog_6_method_6_code 14 = .ok (.aload_n 0, 1) := by decide +kernel
theorem d_Ma_isMatching_15 : decode prog_6_method_6_code 15 = .ok (.getfield 17, 3) := by decide +kernel
theorem d_Ma_isMatching_18 : decode prog_6_method_6_code 18 = .ok (.getfield 59, 3) := by decide +kernel
theorem d_Ma_isMatching_21 : decode prog_6_method_6_code 21 = .ok (.iload_n 2, 1) := by decide +kernel
theorem d_Ma_isMatching_22 : decode prog_6_method_6_code 22 = .ok (.iaload, 1) := by decide +kernel
theorem d_Ma_isMatching_23 : decode prog_6_method_6_code 23 = .ok (.iand, 1) := by decide +kernel
theorem d_Ma_isMatching_24 : decode prog_6_method_6_code 24 = .ok (.invokestatic 62, 3) := by decide +kernel
theorem d_Ma_isMatching_27 : decode prog_6_method_6_code 27 = .ok (.iconst 1, 1) := by decide +kernel
theorem d_Ma_isMatching_28 : decode prog_6_method_6_code 28 = .ok (.if_icmp .le 5, 3) := by decide +kernel
theorem d_Ma_isMatching_31 : decode prog_6_method_6_code 31 = .ok (.iconst 0, 1) := by decide +kernel
theorem d_Ma_isMatching_32 : decode prog_6_method_6_code 32 = .ok (.ireturn, 1) := by decide +kernel
theorem d_Ma_isMatching_33 : decode prog_6_method_6_code 33 = .ok (.iinc 2 1, 3) := by decide +kernel
theorem d_Ma_isMatching_36 : decode prog_6_method_6_code 36 = .ok (.goto (-34), 3) := by decide +kernel
theorem d_Ma_isMatching_39 : decode prog_6_method_6_code 39 = .ok (.iconst 1, 1) := by decide +kernel
theorem d_Ma_isMatching_40 : decode prog_6_method_6_code 40 = .ok (.ireturn, 1) := by decide +kernel
theorem d_Ma_leastBreaking_0 : decode prog_6_method_14_code 0 = .ok (.iload_n 1, 1) := by decide +kernel
theorem d_Ma_leastBreaking_1 : decode prog_6_method_14_code 1 = .ok (.iload_n 2, 1) := by decide +kernel
theorem d_Ma_leastBreaking_2 : decode prog_6_method_14_code 2 = .ok (.invokestatic 44, 3) := by decide +kernel
theorem d_Ma_leastBreaking_5 : decode prog_6_method_14_code 5 = .ok (.istore 4, 2) := by decide +kernel
theorem d_Ma_leastBreaking_7 : decode prog_6_method_14_code 7 = .ok (.iload 4, 2) := by decide +kernel
theorem d_Ma_leastBreaking_9 : decode prog_6_method_14_code 9 = .ok (.iload_n 1, 1) := by decide +kernel
theorem d_Ma_leastBreaking_10 : decode prog_6_method_14_code 10 = .ok (.iload_n 3, 1) := by decide +kernel
theorem d_Ma_leastBreaking_11 : decode prog_6_method_14_code 11 = .ok (.invokestatic 44, 3) := by decide +kernel
theorem d_Ma_leastBreaking_14 : decode prog_6_method_14_code 14 = .ok (.ior, 1) := by decide +kernel
theorem d_Ma_leastBreaking_15 : decode prog_6_method_14_code 15 = .ok (.istore 5, 2) := by decide +kernel
theorem d_Ma_leastBreaking_17 : decode prog_6_method_14_code 17 = .ok (.iconst 0, 1) := by decide +kernel
theorem d_Ma_leastBreaking_18 : decode prog_6_method_14_code 18 = .ok (.istore 6, 2) := by decide +kernel
theorem d_Ma_leastBreaking_20 : decode prog_6_method_14_code 20 = .ok (.iload 6, 2) := by decide +kernel
theorem d_Ma_leastBreaking_22 : decode prog_6_method_14_code 22 = .ok (.iload 5, 2) := by decide +kernel
theorem d_Ma_leastBreaking_24 : decode prog_6_method_14_code 24 = .ok (.if_icmp .gt 48, 3) := by decide +kernel
theorem d_Ma_leastBreaking_27 : decode prog_6_method_14_code 27 = .ok (.iload 6, 2) := by decide +kernel
theorem d_Ma_leastBreaking_29 : decode prog_6_method_14_code 29 = .ok (.iload 5, 2) := by decide +kernel
theorem d_Ma_leastBreaking_31 : decode prog_6_method_14_code 31 = .ok (.iconst (-1), 1) := by decide +kernel
theorem d_Ma_leastBreaking_32 : decode prog_6_method_14_code 32 = .ok (.ixor, 1) := by decide +kernel
theorem d_Ma_leastBreaking_33 : decode prog_6_method_14_code 33 = .ok (.iand, 1) := by decide +kernel
theorem d_Ma_leastBreaking_34 : decode prog_6_method_14_code 34 = .ok (.ifCond .ne 32, 3) := by decide +kernel
theorem d_Ma_leastBreaking_37 : decode prog_6_method_14_code 37 = .ok (.iload 6, 2) := by decide +kernel
theorem d_Ma_leastBreaking_39 : decode prog_6_method_14_code 39 = .ok (.iload 4, 2) := by decide +kernel
theorem d_Ma_leastBreaking_41 : decode prog_6_method_14_code 41 = .ok (.if_icmp .eq 25, 3) := by decide +kernel
theorem d_Ma_leastBreaking_44 : decode prog_6_method_14_code 44 = .ok (.aload_n 0, 1) := by decide +kernel
theorem d_Ma_leastBreaking_45 : decode prog_6_method_14_code 45 = .ok (.iload_n 1, 1) := by decide +kernel
theorem d_Ma_leastBreaking_46 : decode prog_6_method_14_code 46 = .ok (.iload 4, 2) := by decide +kernel
theorem d_Ma_leastBreaking_48 : decode prog_6_method_14_code 48 = .ok (.iload 6, 2) := by decide +kernel
theorem d_Ma_leastBreaking_50 : decode prog_6_method_14_code 50 = .ok (.ior, 1) := by decide +kernel
theorem d_Ma_leastBreaking_51 : decode prog_6_method_14_code 51 = .ok (.invokevirtual 50, 3) := by decide +kernel
theorem d_Ma_leastBreaking_54 : decode prog_6_method_14_code 54 = .ok (.sipush 255, 3) := by decide +kernel
theorem d_Ma_leastBreaking_57 : decode prog_6_method_14_code 57 = .ok (.iand, 1) := by decide +kernel
theorem d_Ma_leastBreaking_58 : decode prog_6_method_14_code 58 = .ok (.iload 6, 2) := by decide +kernel
theorem d_Ma_leastBreaking_60 : decode prog_6_method_14_code 60 = .ok (.if_icmp .ne 6, 3) := by decide +kernel
theorem d_Ma_leastBreaking_63 : decode prog_6_method_14_code 63 = .ok (.iload 6, 2) := by decide +kernel
theorem d_Ma_leastBreaking_65 : decode prog_6_method_14_code 65 = .ok (.ireturn, 1) := by decide +kernel
theorem d_Ma_leastBreaking_66 : decode prog_6_method_14_code 66 = .ok (.iinc 6 1, 3) := by decide +kernel
theorem d_Ma_leastBreaking_69 : decode prog_6_method_14_code 69 = .ok (.goto (-49), 3) := by decide +kernel
theorem d_Ma_leastBreaking_72 : decode prog_6_method_14_code 72 = .ok (.iconst 0, 1) := by decide +kernel
theorem d_Ma_leastBreaking_73 : decode prog_6_method_14_code 73 = .ok (.ireturn, 1) := by decide +kernel
theorem d_Ma_readyWithoutMore_0 : decode prog_6_method_2_code 0 = .ok (.iconst 0, 1) := by decide +kernel
theorem d_Ma_readyWithoutMore_1 : decode prog_6_method_2_code 1 = .ok (.istore_n 1, 1) := by decide +kernel
theorem d_Ma_readyWithoutMore_2 : decode prog_6_method_2_code 2 = .ok (.iload_n 1, 1) := by decide +kernel
theorem d_Ma_readyWithoutMore_3 : decode prog_6_method_2_code 3 = .ok (.iconst 4, 1) := by decide +kernel
theorem d_Ma_readyWithoutMore_4 : decode prog_6_method_2_code 4 = .ok (.if_icmp .ge 26, 3) := by decide +kernel
theorem d_Ma_readyWithoutMore_7 : decode prog_6_method_2_code 7 = .ok (.aload_n 0, 1) := by decide +kernel
theorem d_Ma_readyWithoutMore_8 : decode prog_6_method_2_code 8 = .ok (.getfield 11, 3) := by decide +kernel
theorem d_Ma_readyWithoutMore_11 : decode prog_6_method_2_code 11 = .ok (.iload_n 1, 1) := by decide +kernel
theorem d_Ma_readyWithoutMore_12 : decode prog_6_method_2_code 12 = .ok (.iconst 0, 1) := by decide +kernel
theorem d_Ma_readyWithoutMore_13 : decode prog_6_method_2_code 13 = .ok (.iastore, 1) := by decide +kernel
theorem d_Ma_readyWithoutMore_14 : decode prog_6_method_2_code 14 = .ok (.aload_n 0, 1) := by decide +kernel
theorem d_Ma_readyWithoutMore_15 : decode prog_6_method_2_code 15 = .ok (.getfield 29, 3) := by decide +kernel
theorem d_Ma_readyWithoutMore_18 : decode prog_6_method_2_code 18 = .ok (.iload_n 1, 1) := by decide +kernel
theorem d_Ma_readyWithoutMore_19 : decode prog_6_method_2_code 19 = .ok (.aaload, 1) := by decide +kernel
theorem d_Ma_readyWithoutMore_20 : decode prog_6_method_2_code 20 = .ok (.iconst 0, 1) := by decide +kernel
theorem d_Ma_readyWithoutMore_21 : decode prog_6_method_2_code 21 = .ok (.invokevirtual 33, 3) := by decide +kernel
theorem d_Ma_readyWithoutMore_24 : decode prog_6_method_2_code 24 = .ok (.iinc 1 1, 3) := by decide +kernel
theorem d_Ma_readyWithoutMore_27 : decode prog_6_method_2_code 27 = .ok (.goto (-25), 3) := by decide +kernel
theorem d_Ma_readyWithoutMore_30 : decode prog_6_method_2_code 30 = .ok (.return_, 1) := by decide +kernel
theorem d_Ma_wanted_0 : decode prog_6_method_12_code 0 = .ok (.iconst 0, 1) := by decide +kernel
theorem d_Ma_wanted_1 : decode prog_6_method_12_code 1 = .ok (.istore_n 2, 1) := by decide +kernel
theorem d_Ma_wanted_2 : decode prog_6_method_12_code 2 = .ok (.iconst 0, 1) := by decide +kernel
theorem d_Ma_wanted_3 : decode prog_6_method_12_code 3 = .ok (.istore_n 3, 1) := by decide +kernel
theorem d_Ma_wanted_4 : decode prog_6_method_12_code 4 = .ok (.iload_n 3, 1) := by decide +kernel
theorem d_Ma_wanted_5 : decode prog_6_method_12_code 5 = .ok (.aload_n 0, 1) := by decide +kernel
theorem d_Ma_wanted_6 : decode prog_6_method_12_code 6 = .ok (.getfield 21, 3) := by decide +kernel
theorem d_Ma_wanted_9 : decode prog_6_method_12_code 9 = .ok (.getfield 53, 3) := by decide +kernel
theorem d_Ma_wanted_12 : decode prog_6_method_12_code 12 = .ok (.if_icmp .ge 66, 3) := by decide +kernel
theorem d_Ma_wanted_15 : decode prog_6_method_12_code 15 = .ok (.aload_n 0, 1) := by decide +kernel
theorem d_Ma_wanted_16 : decode prog_6_method_12_code 16 = .ok (.getfield 21, 3) := by decide +kernel
theorem d_Ma_wanted_19 : decode prog_6_method_12_code 19 = .ok (.iload_n 3, 1) := by decide +kernel
theorem d_Ma_wanted_20 : decode prog_6_method_12_code 20 = .ok (.invokevirtual 75, 3) := by decide +kernel
theorem d_Ma_wanted_23 : decode prog_6_method_12_code 23 = .ok (.ifCond .eq 49, 3) := by decide +kernel
theorem d_Ma_wanted_26 : decode prog_6_method_12_code 26 = .ok (.iload_n 1, 1) := by decide +kernel
theorem d_Ma_wanted_27 : decode prog_6_method_12_code 27 = .ok (.aload_n 0, 1) := by decide +kernel
theorem d_Ma_wanted_28 : decode prog_6_method_12_code 28 = .ok (.getfield 17, 3) := by decide +kernel
theorem d_Ma_wanted_31 : decode prog_6_method_12_code 31 = .ok (.getfield 59, 3) := by decide +kernel
theorem d_Ma_wanted_34 : decode prog_6_method_12_code 34 = .ok (.iload_n 3, 1) := by decide +kernel
theorem d_Ma_wanted_35 : decode prog_6_method_12_code 35 = .ok (.iaload, 1) := by decide +kernel
theorem d_Ma_wanted_36 : decode prog_6_method_12_code 36 = .ok (.iand, 1) := by decide +kernel
theorem d_Ma_wanted_37 : decode prog_6_method_12_code 37 = .ok (.istore 4, 2) := by decide +kernel
theorem d_Ma_wanted_39 : decode prog_6_method_12_code 39 = .ok (.iload_n 2, 1) := by decide +kernel
theorem d_Ma_wanted_40 : decode prog_6_method_12_code 40 = .ok (.iload 4, 2) := by decide +kernel
theorem d_Ma_wanted_42 : decode prog_6_method_12_code 42 = .ok (.ifCond .ne 15, 3) := by decide +kernel
theorem d_Ma_wanted_45 : decode prog_6_method_12_code 45 = .ok (.aload_n 0, 1) := by decide +kernel
theorem d_Ma_wanted_46 : decode prog_6_method_12_code 46 = .ok (.getfield 21, 3) := by decide +kernel
theorem d_Ma_wanted_49 : decode prog_6_method_12_code 49 = .ok (.getfield 105, 3) := by decide +kernel
theorem d_Ma_wanted_52 : decode prog_6_method_12_code 52 = .ok (.iload_n 3, 1) := by decide +kernel
theorem d_Ma_wanted_53 : decode prog_6_method_12_code 53 = .ok (.iaload, 1) := by decide +kernel
theorem d_Ma_wanted_54 : decode prog_6_method_12_code 54 = .ok (.goto 16, 3) := by decide +kernel
theorem d_Ma_wanted_57 : decode prog_6_method_12_code 57 = .ok (.aload_n 0, 1) := by decide +kernel
theorem d_Ma_wanted_58 : decode prog_6_method_12_code 58 = .ok (.getfield 21, 3) := by decide +kernel
theorem d_Ma_wanted_61 : decode prog_6_method_12_code 61 = .ok (.getfield 108, 3) := by decide +kernel
theorem d_Ma_wanted_64 : decode prog_6_method_12_code 64 = .ok (.iload 4, 2) := by decide +kernel
theorem d_Ma_wanted_66 : decode prog_6_method_12_code 66 = .ok (.invokestatic 102, 3) := by decide +kernel
theorem d_Ma_wanted_69 : decode prog_6_method_12_code 69 = .ok (.iaload, 1) := by decide +kernel
theorem d_Ma_wanted_70 : decode prog_6_method_12_code 70 = .ok (.ior, 1) := by decide +kernel
theorem d_Ma_wanted_71 : decode prog_6_method_12_code 71 = .ok (.istore_n 2, 1) := by decide +kernel
theorem d_Ma_wanted_72 : decode prog_6_method_12_code 72 = .ok (.iinc 3 1, 3) := by decide +kernel
theorem d_Ma_wanted_75 : decode prog_6_method_12_code 75 = .ok (.goto (-71), 3) := by decide +kernel
theorem d_Ma_wanted_78 : decode prog_6_method_12_code 78 = .ok (.iload_n 2, 1) := by decide +kernel
theorem d_Ma_wanted_79 : decode prog_6_method_12_code 79 = .ok (.ireturn, 1) := by decide +kernel
theorem d_Ma_mayGrow_0 : decode prog_6_method_5_code 0 = .ok (.aload_n 0, 1) := by decide +kernel
theorem d_Ma_mayGrow_1 : decode prog_6_method_5_code 1 = .ok (.iload_n 1, 1) := by decide +kernel
theorem d_Ma_mayGrow_2 : decode prog_6_method_5_code 2 = .ok (.iload_n 1, 1) := by decide +kernel
theorem d_Ma_mayGrow_3 : decode prog_6_method_5_code 3 = .ok (.iload_n 2, 1) := by decide +kernel
theorem d_Ma_mayGrow_4 : decode prog_6_method_5_code 4 = .ok (.invokestatic 44, 3) := by decide +kernel
theorem d_Ma_mayGrow_7 : decode prog_6_method_5_code 7 = .ok (.invokevirtual 50, 3) := by decide +kernel
theorem d_Ma_mayGrow_10 : decode prog_6_method_5_code 10 = .ok (.sipush 256, 3) := by decide +kernel
theorem d_Ma_mayGrow_13 : decode prog_6_method_5_code 13 = .ok (.iand, 1) := by decide +kernel
theorem d_Ma_mayGrow_14 : decode prog_6_method_5_code 14 = .ok (.ifCond .eq 7, 3) := by decide +kernel
theorem d_Ma_mayGrow_17 : decode prog_6_method_5_code 17 = .ok (.iconst 1, 1) := by decide +kernel
theorem d_Ma_mayGrow_18 : decode prog_6_method_5_code 18 = .ok (.goto 4, 3) := by decide +kernel
theorem d_Ma_mayGrow_21 : decode prog_6_method_5_code 21 = .ok (.iconst 0, 1) := by decide +kernel
theorem d_Ma_mayGrow_22 : decode prog_6_method_5_code 22 = .ok (.ireturn, 1) := by decide +kernel
theorem d_Ma_breakingBonds_0 : decode prog_6_method_18_code 0 = .ok (.iconst 0, 1) := by decide +kernel
theorem d_Ma_breakingBonds_1 : decode prog_6_method_18_code 1 = .ok (.istore_n 3, 1) := by decide +kernel
theorem d_Ma_breakingBonds_2 : decode prog_6_method_18_code 2 = .ok (.iconst 0, 1) := by decide +kernel
theorem d_Ma_breakingBonds_3 : decode prog_6_method_18_code 3 = .ok (.istore 4, 2) := by decide +kernel
theorem d_Ma_breakingBonds_5 : decode prog_6_method_18_code 5 = .ok (.iload 4, 2) := by decide +kernel
theorem d_Ma_breakingBonds_7 : decode prog_6_method_18_code 7 = .ok (.aload_n 0, 1) := by decide +kernel
theorem d_Ma_breakingBonds_8 : decode prog_6_method_18_code 8 = .ok (.getfield 17, 3) := by decide +kernel
theorem d_Ma_breakingBonds_11 : decode prog_6_method_18_code 11 = .ok (.getfield 68, 3) := by decide +kernel
theorem d_Ma_breakingBonds_14 : decode prog_6_method_18_code 14 = .ok (.if_icmp .ge 80, 3) := by decide +kernel
theorem d_Ma_breakingBonds_17 : decode prog_6_method_18_code 17 = .ok (.iconst 1, 1) := by decide +kernel
theorem d_Ma_breakingBonds_18 : decode prog_6_method_18_code 18 = .ok (.aload_n 0, 1) := by decide +kernel
theorem d_Ma_breakingBonds_19 : decode prog_6_method_18_code 19 = .ok (.getfield 17, 3) := by decide +kernel
theorem d_Ma_breakingBonds_22 : decode prog_6_method_18_code 22 = .ok (.getfield 125, 3) := by decide +kernel
theorem d_Ma_breakingBonds_25 : decode prog_6_method_18_code 25 = .ok (.iload 4, 2) := by decide +kernel
theorem d_Ma_breakingBonds_27 : decode prog_6_method_18_code 27 = .ok (.iaload, 1) := by decide +kernel
theorem d_Ma_breakingBonds_28 : decode prog_6_method_18_code 28 = .ok (.ishl, 1) := by decide +kernel
theorem d_Ma_breakingBonds_29 : decode prog_6_method_18_code 29 = .ok (.istore 5, 2) := by decide +kernel
theorem d_Ma_breakingBonds_31 : decode prog_6_method_18_code 31 = .ok (.iload_n 2, 1) := by decide +kernel
theorem d_Ma_breakingBonds_32 : decode prog_6_method_18_code 32 = .ok (.iload 5, 2) := by decide +kernel
theorem d_Ma_breakingBonds_34 : decode prog_6_method_18_code 34 = .ok (.iand, 1) := by decide +kernel
theorem d_Ma_breakingBonds_35 : decode prog_6_method_18_code 35 = .ok (.ifCond .eq 53, 3) := by decide +kernel
theorem d_Ma_breakingBonds_38 : decode prog_6_method_18_code 38 = .ok (.aload_n 0, 1) := by decide +kernel
theorem d_Ma_breakingBonds_39 : decode prog_6_method_18_code 39 = .ok (.getfield 17, 3) := by decide +kernel
theorem d_Ma_breakingBonds_42 : decode prog_6_method_18_code 42 = .ok (.getfield 128, 3) := by decide +kernel
theorem d_Ma_breakingBonds_45 : decode prog_6_method_18_code 45 = .ok (.iload 4, 2) := by decide +kernel
theorem d_Ma_breakingBonds_47 : decode prog_6_method_18_code 47 = .ok (.iaload, 1) := by decide +kernel
theorem d_Ma_breakingBonds_48 : decode prog_6_method_18_code 48 = .ok (.istore 6, 2) := by decide +kernel
theorem d_Ma_breakingBonds_50 : decode prog_6_method_18_code 50 = .ok (.aload_n 0, 1) := by decide +kernel
theorem d_Ma_breakingBonds_51 : decode prog_6_method_18_code 51 = .ok (.iload 6, 2) := by decide +kernel
theorem d_Ma_breakingBonds_53 : decode prog_6_method_18_code 53 = .ok (.iload 6, 2) := by decide +kernel
theorem d_Ma_breakingBonds_55 : decode prog_6_method_18_code 55 = .ok (.iload_n 1, 1) := by decide +kernel
theorem d_Ma_breakingBonds_56 : decode prog_6_method_18_code 56 = .ok (.iload 5, 2) := by decide +kernel
theorem d_Ma_breakingBonds_58 : decode prog_6_method_18_code 58 = .ok (.ior, 1) := by decide +kernel
theorem d_Ma_breakingBonds_59 : decode prog_6_method_18_code 59 = .ok (.invokestatic 44, 3) := by decide +kernel
theorem d_Ma_breakingBonds_62 : decode prog_6_method_18_code 62 = .ok (.invokevirtual 50, 3) := by decide +kernel
theorem d_Ma_breakingBonds_65 : decode prog_6_method_18_code 65 = .ok (.sipush 255, 3) := by decide +kernel
theorem d_Ma_breakingBonds_68 : decode prog_6_method_18_code 68 = .ok (.iand, 1) := by decide +kernel
theorem d_Ma_breakingBonds_69 : decode prog_6_method_18_code 69 = .ok (.istore 7, 2) := by decide +kernel
theorem d_Ma_breakingBonds_71 : decode prog_6_method_18_code 71 = .ok (.iload_n 3, 1) := by decide +kernel
theorem d_Ma_breakingBonds_72 : decode prog_6_method_18_code 72 = .ok (.iload 7, 2) := by decide +kernel
theorem d_Ma_breakingBonds_74 : decode prog_6_method_18_code 74 = .ok (.aload_n 0, 1) := by decide +kernel
theorem d_Ma_breakingBonds_75 : decode prog_6_method_18_code 75 = .ok (.getfield 17, 3) := by decide +kernel
theorem d_Ma_breakingBonds_78 : decode prog_6_method_18_code 78 = .ok (.iload 4, 2) := by decide +kernel
theorem d_Ma_breakingBonds_80 : decode prog_6_method_18_code 80 = .ok (.invokevirtual 131, 3) := by decide +kernel
theorem d_Ma_breakingBonds_83 : decode prog_6_method_18_code 83 = .ok (.iushr, 1) := by decide +kernel
theorem d_Ma_breakingBonds_84 : decode prog_6_method_18_code 84 = .ok (.iconst 1, 1) := by decide +kernel
theorem d_Ma_breakingBonds_85 : decode prog_6_method_18_code 85 = .ok (.iand, 1) := by decide +kernel
theorem d_Ma_breakingBonds_86 : decode prog_6_method_18_code 86 = .ok (.iadd, 1) := by decide +kernel
theorem d_Ma_breakingBonds_87 : decode prog_6_method_18_code 87 = .ok (.istore_n 3, 1) := by decide +kernel
theorem d_Ma_breakingBonds_88 : decode prog_6_method_18_code 88 = .ok (.iinc 4 1, 3) := by decide +kernel
theorem d_Ma_breakingBonds_91 : decode prog_6_method_18_code 91 = .ok (.goto (-86), 3) := by decide +kernel
theorem d_Ma_breakingBonds_94 : decode prog_6_method_18_code 94 = .ok (.iload_n 3, 1) := by decide +kernel
theorem d_Ma_breakingBonds_95 : decode prog_6_method_18_code 95 = .ok (.ireturn, 1) := by decide +kernel
theorem d_Ma_breakingCouples_0 : decode prog_6_method_17_code 0 = .ok (.iconst 0, 1) := by decide +kernel
theorem d_Ma_breakingCouples_1 : decode prog_6_method_17_code 1 = .ok (.istore_n 3, 1) := by decide +kernel
theorem d_Ma_breakingCouples_2 : decode prog_6_method_17_code 2 = .ok (.iconst 0, 1) := by decide +kernel
theorem d_Ma_breakingCouples_3 : decode prog_6_method_17_code 3 = .ok (.istore 4, 2) := by decide +kernel
theorem d_Ma_breakingCouples_5 : decode prog_6_method_17_code 5 = .ok (.iload 4, 2) := by decide +kernel
theorem d_Ma_breakingCouples_7 : decode prog_6_method_17_code 7 = .ok (.aload_n 0, 1) := by decide +kernel
theorem d_Ma_breakingCouples_8 : decode prog_6_method_17_code 8 = .ok (.getfield 25, 3) := by decide +kernel
theorem d_Ma_breakingCouples_11 : decode prog_6_method_17_code 11 = .ok (.getfield 84, 3) := by decide +kernel
theorem d_Ma_breakingCouples_14 : decode prog_6_method_17_code 14 = .ok (.if_icmp .ge 24, 3) := by decide +kernel
theorem d_Ma_breakingCouples_17 : decode prog_6_method_17_code 17 = .ok (.aload_n 0, 1) := by decide +kernel
theorem d_Ma_breakingCouples_18 : decode prog_6_method_17_code 18 = .ok (.iload 4, 2) := by decide +kernel
theorem d_Ma_breakingCouples_20 : decode prog_6_method_17_code 20 = .ok (.iload_n 1, 1) := by decide +kernel
theorem d_Ma_breakingCouples_21 : decode prog_6_method_17_code 21 = .ok (.iload_n 2, 1) := by decide +kernel
theorem d_Ma_breakingCouples_22 : decode prog_6_method_17_code 22 = .ok (.invokevirtual 121, 3) := by decide +kernel
theorem d_Ma_breakingCouples_25 : decode prog_6_method_17_code 25 = .ok (.iconst (-1), 1) := by decide +kernel
theorem d_Ma_breakingCouples_26 : decode prog_6_method_17_code 26 = .ok (.if_icmp .eq 6, 3) := by decide +kernel
theorem d_Ma_breakingCouples_29 : decode prog_6_method_17_code 29 = .ok (.iinc 3 1, 3) := by decide +kernel
theorem d_Ma_breakingCouples_32 : decode prog_6_method_17_code 32 = .ok (.iinc 4 1, 3) := by decide +kernel
theorem d_Ma_breakingCouples_35 : decode prog_6_method_17_code 35 = .ok (.goto (-30), 3) := by decide +kernel
theorem d_Ma_breakingCouples_38 : decode prog_6_method_17_code 38 = .ok (.iload_n 3, 1) := by decide +kernel
theorem d_Ma_breakingCouples_39 : decode prog_6_method_17_code 39 = .ok (.ireturn, 1) := by decide +kernel
theorem d_Ma_rankOfPerson_0 : decode prog_6_method_11_code 0 = .ok (.iload_n 2, 1) := by decide +kernel
theorem d_Ma_rankOfPerson_1 : decode prog_6_method_11_code 1 = .ok (.aload_n 0, 1) := by decide +kernel
theorem d_Ma_rankOfPerson_2 : decode prog_6_method_11_code 2 = .ok (.getfield 17, 3) := by decide +kernel
theorem d_Ma_rankOfPerson_5 : decode prog_6_method_11_code 5 = .ok (.getfield 59, 3) := by decide +kernel
theorem d_Ma_rankOfPerson_8 : decode prog_6_method_11_code 8 = .ok (.iload_n 1, 1) := by decide +kernel
theorem d_Ma_rankOfPerson_9 : decode prog_6_method_11_code 9 = .ok (.iaload, 1) := by decide +kernel
theorem d_Ma_rankOfPerson_10 : decode prog_6_method_11_code 10 = .ok (.iand, 1) := by decide +kernel
theorem d_Ma_rankOfPerson_11 : decode prog_6_method_11_code 11 = .ok (.istore_n 3, 1) := by decide +kernel
theorem d_Ma_rankOfPerson_12 : decode prog_6_method_11_code 12 = .ok (.iload_n 3, 1) := by decide +kernel
theorem d_Ma_rankOfPerson_13 : decode prog_6_method_11_code 13 = .ok (.ifCond .ne 15, 3) := by decide +kernel
theorem d_Ma_rankOfPerson_16 : decode prog_6_method_11_code 16 = .ok (.aload_n 0, 1) := by decide +kernel
theorem d_Ma_rankOfPerson_17 : decode prog_6_method_11_code 17 = .ok (.getfield 21, 3) := by decide +kernel
theorem d_Ma_rankOfPerson_20 : decode prog_6_method_11_code 20 = .ok (.getfield 99, 3) := by decide +kernel
theorem d_Ma_rankOfPerson_23 : decode prog_6_method_11_code 23 = .ok (.iload_n 1, 1) := by decide +kernel
theorem d_Ma_rankOfPerson_24 : decode prog_6_method_11_code 24 = .ok (.iaload, 1) := by decide +kernel
theorem d_Ma_rankOfPerson_25 : decode prog_6_method_11_code 25 = .ok (.goto 15, 3) := by decide +kernel
theorem d_Ma_rankOfPerson_28 : decode prog_6_method_11_code 28 = .ok (.aload_n 0, 1) := by decide +kernel
theorem d_Ma_rankOfPerson_29 : decode prog_6_method_11_code 29 = .ok (.getfield 21, 3) := by decide +kernel
theorem d_Ma_rankOfPerson_32 : decode prog_6_method_11_code 32 = .ok (.getfield 69, 3) := by decide +kernel
theorem d_Ma_rankOfPerson_35 : decode prog_6_method_11_code 35 = .ok (.iload_n 3, 1) := by decide +kernel
theorem d_Ma_rankOfPerson_36 : decode prog_6_method_11_code 36 = .ok (.invokestatic 102, 3) := by decide +kernel
theorem d_Ma_rankOfPerson_39 : decode prog_6_method_11_code 39 = .ok (.iaload, 1) := by decide +kernel
theorem d_Ma_rankOfPerson_40 : decode prog_6_method_11_code 40 = .ok (.ireturn, 1) := by decide +kernel
theorem d_Ma_readyWithMore_0 : decode prog_6_method_3_code 0 = .ok (.iconst 0, 1) := by decide +kernel
theorem d_Ma_readyWithMore_1 : decode prog_6_method_3_code 1 = .ok (.istore_n 3, 1) := by decide +kernel
theorem d_Ma_readyWithMore_2 : decode prog_6_method_3_code 2 = .ok (.iconst 0, 1) := by decide +kernel
theorem d_Ma_readyWithMore_3 : decode prog_6_method_3_code 3 = .ok (.istore 4, 2) := by decide +kernel
theorem d_Ma_readyWithMore_5 : decode prog_6_method_3_code 5 = .ok (.iload 4, 2) := by decide +kernel
theorem d_Ma_readyWithMore_7 : decode prog_6_method_3_code 7 = .ok (.iconst 4, 1) := by decide +kernel
theorem d_Ma_readyWithMore_8 : decode prog_6_method_3_code 8 = .ok (.if_icmp .ge 36, 3) := by decide +kernel
theorem d_Ma_readyWithMore_11 : decode prog_6_method_3_code 11 = .ok (.aload_n 0, 1) := by decide +kernel
theorem d_Ma_readyWithMore_12 : decode prog_6_method_3_code 12 = .ok (.getfield 11, 3) := by decide +kernel
theorem d_Ma_readyWithMore_15 : decode prog_6_method_3_code 15 = .ok (.iload 4, 2) := by decide +kernel
theorem d_Ma_readyWithMore_17 : decode prog_6_method_3_code 17 = .ok (.iload_n 1, 1) := by decide +kernel
theorem d_Ma_readyWithMore_18 : decode prog_6_method_3_code 18 = .ok (.iconst 2, 1) := by decide +kernel
theorem d_Ma_readyWithMore_19 : decode prog_6_method_3_code 19 = .ok (.iconst 3, 1) := by decide +kernel
theorem d_Ma_readyWithMore_20 : decode prog_6_method_3_code 20 = .ok (.iload 4, 2) := by decide +kernel
theorem d_Ma_readyWithMore_22 : decode prog_6_method_3_code 22 = .ok (.isub, 1) := by decide +kernel
theorem d_Ma_readyWithMore_23 : decode prog_6_method_3_code 23 = .ok (.imul, 1) := by decide +kernel
theorem d_Ma_readyWithMore_24 : decode prog_6_method_3_code 24 = .ok (.iushr, 1) := by decide +kernel
theorem d_Ma_readyWithMore_25 : decode prog_6_method_3_code 25 = .ok (.iconst 3, 1) := by decide +kernel
theorem d_Ma_readyWithMore_26 : decode prog_6_method_3_code 26 = .ok (.iand, 1) := by decide +kernel
theorem d_Ma_readyWithMore_27 : decode prog_6_method_3_code 27 = .ok (.iastore, 1) := by decide +kernel
theorem d_Ma_readyWithMore_28 : decode prog_6_method_3_code 28 = .ok (.iload_n 3, 1) := by decide +kernel
theorem d_Ma_readyWithMore_29 : decode prog_6_method_3_code 29 = .ok (.aload_n 0, 1) := by decide +kernel
theorem d_Ma_readyWithMore_30 : decode prog_6_method_3_code 30 = .ok (.getfield 11, 3) := by decide +kernel
theorem d_Ma_readyWithMore_33 : decode prog_6_method_3_code 33 = .ok (.iload 4, 2) := by decide +kernel
theorem d_Ma_readyWithMore_35 : decode prog_6_method_3_code 35 = .ok (.iaload, 1) := by decide +kernel
theorem d_Ma_readyWithMore_36 : decode prog_6_method_3_code 36 = .ok (.iadd, 1) := by decide +kernel
theorem d_Ma_readyWithMore_37 : decode prog_6_method_3_code 37 = .ok (.istore_n 3, 1) := by decide +kernel
theorem d_Ma_readyWithMore_38 : decode prog_6_method_3_code 38 = .ok (.iinc 4 1, 3) := by decide +kernel
theorem d_Ma_readyWithMore_41 : decode prog_6_method_3_code 41 = .ok (.goto (-36), 3) := by decide +kernel
theorem d_Ma_readyWithMore_44 : decode prog_6_method_3_code 44 = .ok (.iload_n 3, 1) := by decide +kernel
theorem d_Ma_readyWithMore_45 : decode prog_6_method_3_code 45 = .ok (.iload_n 2, 1) := by decide +kernel
theorem d_Ma_readyWithMore_46 : decode prog_6_method_3_code 46 = .ok (.if_icmp .eq 5, 3) := by decide +kernel
theorem d_Ma_readyWithMore_49 : decode prog_6_method_3_code 49 = .ok (.iconst 0, 1) := by decide +kernel
theorem d_Ma_readyWithMore_50 : decode prog_6_method_3_code 50 = .ok (.ireturn, 1) := by decide +kernel
theorem d_Ma_readyWithMore_51 : decode prog_6_method_3_code 51 = .ok (.iconst 0, 1) := by decide +kernel
theorem d_Ma_readyWithMore_52 : decode prog_6_method_3_code 52 = .ok (.istore 4, 2) := by decide +kernel
theorem d_Ma_readyWithMore_54 : decode prog_6_method_3_code 54 = .ok (.iload 4, 2) := by decide +kernel
theorem d_Ma_readyWithMore_56 : decode prog_6_method_3_code 56 = .ok (.iconst 4, 1) := by decide +kernel
theorem d_Ma_readyWithMore_57 : decode prog_6_method_3_code 57 = .ok (.if_icmp .ge 58, 3) := by decide +kernel
theorem d_Ma_readyWithMore_60 : decode prog_6_method_3_code 60 = .ok (.aload_n 0, 1) := by decide +kernel
theorem d_Ma_readyWithMore_61 : decode prog_6_method_3_code 61 = .ok (.getfield 11, 3) := by decide +kernel
theorem d_Ma_readyWithMore_64 : decode prog_6_method_3_code 64 = .ok (.iload 4, 2) := by decide +kernel
theorem d_Ma_readyWithMore_66 : decode prog_6_method_3_code 66 = .ok (.iaload, 1) := by decide +kernel
theorem d_Ma_readyWithMore_67 : decode prog_6_method_3_code 67 = .ok (.ifCond .le 25, 3) := by decide +kernel
theorem d_Ma_readyWithMore_70 : decode prog_6_method_3_code 70 = .ok (.aload_n 0, 1) := by decide +kernel
theorem d_Ma_readyWithMore_71 : decode prog_6_method_3_code 71 = .ok (.getfield 29, 3) := by decide +kernel
theorem d_Ma_readyWithMore_74 : decode prog_6_method_3_code 74 = .ok (.iload 4, 2) := by decide +kernel
theorem d_Ma_readyWithMore_76 : decode prog_6_method_3_code 76 = .ok (.aaload, 1) := by decide +kernel
theorem d_Ma_readyWithMore_77 : decode prog_6_method_3_code 77 = .ok (.aload_n 0, 1) := by decide +kernel
theorem d_Ma_readyWithMore_78 : decode prog_6_method_3_code 78 = .ok (.getfield 11, 3) := by decide +kernel
theorem d_Ma_readyWithMore_81 : decode prog_6_method_3_code 81 = .ok (.iload 4, 2) := by decide +kernel
theorem d_Ma_readyWithMore_83 : decode prog_6_method_3_code 83 = .ok (.iaload, 1) := by decide +kernel
theorem d_Ma_readyWithMore_84 : decode prog_6_method_3_code 84 = .ok (.invokevirtual 37, 3) := by decide +kernel
theorem d_Ma_readyWithMore_87 : decode prog_6_method_3_code 87 = .ok (.ifCond .ne 5, 3) := by decide +kernel
theorem d_Ma_readyWithMore_90 : decode prog_6_method_3_code 90 = .ok (.iconst 0, 1) := by decide +kernel
theorem d_Ma_readyWithMore_91 : decode prog_6_method_3_code 91 = .ok (.ireturn, 1) := by decide +kernel
theorem d_Ma_readyWithMore_92 : decode prog_6_method_3_code 92 = .ok (.aload_n 0, 1) := by decide +kernel
theorem d_Ma_readyWithMore_93 : decode prog_6_method_3_code 93 = .ok (.getfield 29, 3) := by decide +kernel
theorem d_Ma_readyWithMore_96 : decode prog_6_method_3_code 96 = .ok (.iload 4, 2) := by decide +kernel
theorem d_Ma_readyWithMore_98 : decode prog_6_method_3_code 98 = .ok (.aaload, 1) := by decide +kernel
theorem d_Ma_readyWithMore_99 : decode prog_6_method_3_code 99 = .ok (.aload_n 0, 1) := by decide +kernel
theorem d_Ma_readyWithMore_100 : decode prog_6_method_3_code 100 = .ok (.getfield 11, 3) := by decide +kernel
theorem d_Ma_readyWithMore_103 : decode prog_6_method_3_code 103 = .ok (.iload 4, 2) := by decide +kernel
theorem d_Ma_readyWithMore_105 : decode prog_6_method_3_code 105 = .ok (.iaload, 1) := by decide +kernel
theorem d_Ma_readyWithMore_106 : decode prog_6_method_3_code 106 = .ok (.invokevirtual 33, 3) := by decide +kernel
theorem d_Ma_readyWithMore_109 : decode prog_6_method_3_code 109 = .ok (.iinc 4 1, 3) := by decide +kernel
theorem d_Ma_readyWithMore_112 : decode prog_6_method_3_code 112 = .ok (.goto (-58), 3) := by decide +kernel
theorem d_Ma_readyWithMore_115 : decode prog_6_method_3_code 115 = .ok (.iconst 1, 1) := by decide +kernel
theorem d_Ma_readyWithMore_116 : decode prog_6_method_3_code 116 = .ok (.ireturn, 1) := by decide +kernel
