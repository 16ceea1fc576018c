theorem d_P_init_0 : decode prog_8_method_1_code 0 = .ok (.aload_n 0, 1) := by decide +kernel
theorem d_P_init_1 : decode prog_8_method_1_code 1 = .ok (.invokespecial 5, 3) := by decide +kernel
theorem d_P_init_4 : decode prog_8_method_1_code 4 = .ok (.aload_n 0, 1) := by decide +kernel
theorem d_P_init_5 : decode prog_8_method_1_code 5 = .ok (.bipush 7, 2) := by decide +kernel
theorem d_P_init_7 : decode prog_8_method_1_code 7 = .ok (.newarray .int, 2) := by decide +kernel
theorem d_P_init_9 : decode prog_8_method_1_code 9 = .ok (.putfield 13, 3) := by decide +kernel
theorem d_P_init_12 : decode prog_8_method_1_code 12 = .ok (.aload_n 0, 1) := by decide +kernel
theorem d_P_init_13 : decode prog_8_method_1_code 13 = .ok (.iconst 4, 1) := by decide +kernel
theorem d_P_init_14 : decode prog_8_method_1_code 14 = .ok (.newarray .int, 2) := by decide +kernel
theorem d_P_init_16 : decode prog_8_method_1_code 16 = .ok (.putfield 17, 3) := by decide +kernel
theorem d_P_init_19 : decode prog_8_method_1_code 19 = .ok (.aload_n 0, 1) := by decide +kernel
theorem d_P_init_20 : decode prog_8_method_1_code 20 = .ok (.bipush 7, 2) := by decide +kernel
theorem d_P_init_22 : decode prog_8_method_1_code 22 = .ok (.newarray .int, 2) := by decide +kernel
theorem d_P_init_24 : decode prog_8_method_1_code 24 = .ok (.putfield 20, 3) := by decide +kernel
theorem d_P_init_27 : decode prog_8_method_1_code 27 = .ok (.aload_n 0, 1) := by decide +kernel
theorem d_P_init_28 : decode prog_8_method_1_code 28 = .ok (.bipush 35, 2) := by decide +kernel
theorem d_P_init_30 : decode prog_8_method_1_code 30 = .ok (.newarray .int, 2) := by decide +kernel
theorem d_P_init_32 : decode prog_8_method_1_code 32 = .ok (.putfield 23, 3) := by decide +kernel
theorem d_P_init_35 : decode prog_8_method_1_code 35 = .ok (.aload_n 0, 1) := by decide +kernel
theorem d_P_init_36 : decode prog_8_method_1_code 36 = .ok (.bipush 7, 2) := by decide +kernel
theorem d_P_init_38 : decode prog_8_method_1_code 38 = .ok (.newarray .int, 2) := by decide +kernel
theorem d_P_init_40 : decode prog_8_method_1_code 40 = .ok (.putfield 26, 3) := by decide +kernel
theorem d_P_init_43 : decode prog_8_method_1_code 43 = .ok (.aload_n 0, 1) := by decide +kernel
theorem d_P_init_44 : decode prog_8_method_1_code 44 = .ok (.bipush 7, 2) := by decide +kernel
theorem d_P_init_46 : decode prog_8_method_1_code 46 = .ok (.newarray .int, 2) := by decide +kernel
theorem d_P_init_48 : decode prog_8_method_1_code 48 = .ok (.putfield 29, 3) := by decide +kernel
theorem d_P_init_51 : decode prog_8_method_1_code 51 = .ok (.aload_n 0, 1) := by decide +kernel
theorem d_P_init_52 : decode prog_8_method_1_code 52 = .ok (.bipush 20, 2) := by decide +kernel
theorem d_P_init_54 : decode prog_8_method_1_code 54 = .ok (.newarray .int, 2) := by decide +kernel
theorem d_P_init_56 : decode prog_8_method_1_code 56 = .ok (.putfield 32, 3) := by decide +kernel
theorem d_P_init_59 : decode prog_8_method_1_code 59 = .ok (.aload_n 0, 1) := by decide +kernel
theorem d_P_init_60 : decode prog_8_method_1_code 60 = .ok (.bipush 20, 2) := by decide +kernel
theorem d_P_init_62 : decode prog_8_method_1_code 62 = .ok (.newarray .int, 2) := by decide +kernel
theorem d_P_init_64 : decode prog_8_method_1_code 64 = .ok (.putfield 35, 3) := by decide +kernel
theorem d_P_init_67 : decode prog_8_method_1_code 67 = .ok (.aload_n 0, 1) := by decide +kernel
theorem d_P_init_68 : decode prog_8_method_1_code 68 = .ok (.getfield 20, 3) := by decide +kernel
theorem d_P_init_71 : decode prog_8_method_1_code 71 = .ok (.iconst (-1), 1) := by decide +kernel
theorem d_P_init_72 : decode prog_8_method_1_code 72 = .ok (.invokestatic 38, 3) := by decide +kernel
theorem d_P_init_75 : decode prog_8_method_1_code 75 = .ok (.aload_n 0, 1) := by decide +kernel
theorem d_P_init_76 : decode prog_8_method_1_code 76 = .ok (.getfield 32, 3) := by decide +kernel
theorem d_P_init_79 : decode prog_8_method_1_code 79 = .ok (.iconst (-1), 1) := by decide +kernel
theorem d_P_init_80 : decode prog_8_method_1_code 80 = .ok (.invokestatic 38, 3) := by decide +kernel
theorem d_P_init_83 : decode prog_8_method_1_code 83 = .ok (.return_, 1) := by decide +kernel
theorem d_P_join_0 : decode prog_8_method_4_code 0 = .ok (.aload_n 0, 1) := by decide +kernel
theorem d_P_join_1 : decode prog_8_method_4_code 1 = .ok (.getfield 13, 3) := by decide +kernel
theorem d_P_join_4 : decode prog_8_method_4_code 4 = .ok (.aload_n 0, 1) := by decide +kernel
theorem d_P_join_5 : decode prog_8_method_4_code 5 = .ok (.getfield 44, 3) := by decide +kernel
theorem d_P_join_8 : decode prog_8_method_4_code 8 = .ok (.iload_n 1, 1) := by decide +kernel
theorem d_P_join_9 : decode prog_8_method_4_code 9 = .ok (.iastore, 1) := by decide +kernel
theorem d_P_join_10 : decode prog_8_method_4_code 10 = .ok (.aload_n 0, 1) := by decide +kernel
theorem d_P_join_11 : decode prog_8_method_4_code 11 = .ok (.getfield 17, 3) := by decide +kernel
theorem d_P_join_14 : decode prog_8_method_4_code 14 = .ok (.iload_n 1, 1) := by decide +kernel
theorem d_P_join_15 : decode prog_8_method_4_code 15 = .ok (.dup2, 1) := by decide +kernel
theorem d_P_join_16 : decode prog_8_method_4_code 16 = .ok (.iaload, 1) := by decide +kernel
theorem d_P_join_17 : decode prog_8_method_4_code 17 = .ok (.iconst 1, 1) := by decide +kernel
theorem d_P_join_18 : decode prog_8_method_4_code 18 = .ok (.aload_n 0, 1) := by decide +kernel
theorem d_P_join_19 : decode prog_8_method_4_code 19 = .ok (.getfield 44, 3) := by decide +kernel
theorem d_P_join_22 : decode prog_8_method_4_code 22 = .ok (.ishl, 1) := by decide +kernel
theorem d_P_join_23 : decode prog_8_method_4_code 23 = .ok (.ior, 1) := by decide +kernel
theorem d_P_join_24 : decode prog_8_method_4_code 24 = .ok (.iastore, 1) := by decide +kernel
theorem d_P_join_25 : decode prog_8_method_4_code 25 = .ok (.aload_n 0, 1) := by decide +kernel
theorem d_P_join_26 : decode prog_8_method_4_code 26 = .ok (.dup, 1) := by decide +kernel
theorem d_P_join_27 : decode prog_8_method_4_code 27 = .ok (.getfield 44, 3) := by decide +kernel
theorem d_P_join_30 : decode prog_8_method_4_code 30 = .ok (.iconst 1, 1) := by decide +kernel
theorem d_P_join_31 : decode prog_8_method_4_code 31 = .ok (.iadd, 1) := by decide +kernel
theorem d_P_join_32 : decode prog_8_method_4_code 32 = .ok (.putfield 44, 3) := by decide +kernel
theorem d_P_join_35 : decode prog_8_method_4_code 35 = .ok (.aload_n 0, 1) := by decide +kernel
theorem d_P_join_36 : decode prog_8_method_4_code 36 = .ok (.getfield 44, 3) := by decide +kernel
theorem d_P_join_39 : decode prog_8_method_4_code 39 = .ok (.iconst 1, 1) := by decide +kernel
theorem d_P_join_40 : decode prog_8_method_4_code 40 = .ok (.isub, 1) := by decide +kernel
theorem d_P_join_41 : decode prog_8_method_4_code 41 = .ok (.ireturn, 1) := by decide +kernel
theorem d_P_has_0 : decode prog_8_method_2_code 0 = .ok (.iload_n 1, 1) := by decide +kernel
theorem d_P_has_1 : decode prog_8_method_2_code 1 = .ok (.ifCond .lt 15, 3) := by decide +kernel
theorem d_P_has_4 : decode prog_8_method_2_code 4 = .ok (.iload_n 1, 1) := by decide +kernel
theorem d_P_has_5 : decode prog_8_method_2_code 5 = .ok (.aload_n 0, 1) := by decide +kernel
theorem d_P_has_6 : decode prog_8_method_2_code 6 = .ok (.getfield 44, 3) := by decide +kernel
theorem d_P_has_9 : decode prog_8_method_2_code 9 = .ok (.if_icmp .ge 7, 3) := by decide +kernel
theorem d_P_has_12 : decode prog_8_method_2_code 12 = .ok (.iconst 1, 1) := by decide +kernel
theorem d_P_has_13 : decode prog_8_method_2_code 13 = .ok (.goto 4, 3) := by decide +kernel
theorem d_P_has_16 : decode prog_8_method_2_code 16 = .ok (.iconst 0, 1) := by decide +kernel
theorem d_P_has_17 : decode prog_8_method_2_code 17 = .ok (.ireturn, 1) := by decide +kernel
theorem d_P_enlist_0 : decode prog_8_method_5_code 0 = .ok (.aload_n 0, 1) := by decide +kernel
theorem d_P_enlist_1 : decode prog_8_method_5_code 1 = .ok (.getfield 26, 3) := by decide +kernel
theorem d_P_enlist_4 : decode prog_8_method_5_code 4 = .ok (.iload_n 1, 1) := by decide +kernel
theorem d_P_enlist_5 : decode prog_8_method_5_code 5 = .ok (.iaload, 1) := by decide +kernel
theorem d_P_enlist_6 : decode prog_8_method_5_code 6 = .ok (.istore 4, 2) := by decide +kernel
theorem d_P_enlist_8 : decode prog_8_method_5_code 8 = .ok (.iload 4, 2) := by decide +kernel
theorem d_P_enlist_10 : decode prog_8_method_5_code 10 = .ok (.iconst 5, 1) := by decide +kernel
theorem d_P_enlist_11 : decode prog_8_method_5_code 11 = .ok (.if_icmp .lt 5, 3) := by decide +kernel
theorem d_P_enlist_14 : decode prog_8_method_5_code 14 = .ok (.iconst (-1), 1) := by decide +kernel
theorem d_P_enlist_15 : decode prog_8_method_5_code 15 = .ok (.ireturn, 1) := by decide +kernel
theorem d_P_enlist_16 : decode prog_8_method_5_code 16 = .ok (.aload_n 0, 1) := by decide +kernel
theorem d_P_enlist_17 : decode prog_8_method_5_code 17 = .ok (.getfield 23, 3) := by decide +kernel
theorem d_P_enlist_20 : decode prog_8_method_5_code 20 = .ok (.iload_n 1, 1) := by decide +kernel
theorem d_P_enlist_21 : decode prog_8_method_5_code 21 = .ok (.iconst 5, 1) := by decide +kernel
theorem d_P_enlist_22 : decode prog_8_method_5_code 22 = .ok (.imul, 1) := by decide +kernel
theorem d_P_enlist_23 : decode prog_8_method_5_code 23 = .ok (.iload 4, 2) := by decide +kernel
theorem d_P_enlist_25 : decode prog_8_method_5_code 25 = .ok (.iadd, 1) := by decide +kernel
theorem d_P_enlist_26 : decode prog_8_method_5_code 26 = .ok (.iload_n 2, 1) := by decide +kernel
theorem d_P_enlist_27 : decode prog_8_method_5_code 27 = .ok (.iastore, 1) := by decide +kernel
theorem d_P_enlist_28 : decode prog_8_method_5_code 28 = .ok (.aload_n 0, 1) := by decide +kernel
theorem d_P_enlist_29 : decode prog_8_method_5_code 29 = .ok (.getfield 32, 3) := by decide +kernel
theorem d_P_enlist_32 : decode prog_8_method_5_code 32 = .ok (.iload_n 2, 1) := by decide +kernel
theorem d_P_enlist_33 : decode prog_8_method_5_code 33 = .ok (.iload 4, 2) := by decide +kernel
theorem d_P_enlist_35 : decode prog_8_method_5_code 35 = .ok (.iastore, 1) := by decide +kernel
theorem d_P_enlist_36 : decode prog_8_method_5_code 36 = .ok (.aload_n 0, 1) := by decide +kernel
theorem d_P_enlist_37 : decode prog_8_method_5_code 37 = .ok (.getfield 35, 3) := by decide +kernel
theorem d_P_enlist_40 : decode prog_8_method_5_code 40 = .ok (.iload_n 2, 1) := by decide +kernel
theorem d_P_enlist_41 : decode prog_8_method_5_code 41 = .ok (.aload_n 0, 1) := by decide +kernel
theorem d_P_enlist_42 : decode prog_8_method_5_code 42 = .ok (.getfield 29, 3) := by decide +kernel
theorem d_P_enlist_45 : decode prog_8_method_5_code 45 = .ok (.iload_n 1, 1) := by decide +kernel
theorem d_P_enlist_46 : decode prog_8_method_5_code 46 = .ok (.iaload, 1) := by decide +kernel
theorem d_P_enlist_47 : decode prog_8_method_5_code 47 = .ok (.iastore, 1) := by decide +kernel
theorem d_P_enlist_48 : decode prog_8_method_5_code 48 = .ok (.aload_n 0, 1) := by decide +kernel
theorem d_P_enlist_49 : decode prog_8_method_5_code 49 = .ok (.getfield 29, 3) := by decide +kernel
theorem d_P_enlist_52 : decode prog_8_method_5_code 52 = .ok (.iload_n 1, 1) := by decide +kernel
theorem d_P_enlist_53 : decode prog_8_method_5_code 53 = .ok (.dup2, 1) := by decide +kernel
theorem d_P_enlist_54 : decode prog_8_method_5_code 54 = .ok (.iaload, 1) := by decide +kernel
theorem d_P_enlist_55 : decode prog_8_method_5_code 55 = .ok (.iload_n 3, 1) := by decide +kernel
theorem d_P_enlist_56 : decode prog_8_method_5_code 56 = .ok (.ior, 1) := by decide +kernel
theorem d_P_enlist_57 : decode prog_8_method_5_code 57 = .ok (.iastore, 1) := by decide +kernel
theorem d_P_enlist_58 : decode prog_8_method_5_code 58 = .ok (.aload_n 0, 1) := by decide +kernel
theorem d_P_enlist_59 : decode prog_8_method_5_code 59 = .ok (.getfield 26, 3) := by decide +kernel
theorem d_P_enlist_62 : decode prog_8_method_5_code 62 = .ok (.iload_n 1, 1) := by decide +kernel
theorem d_P_enlist_63 : decode prog_8_method_5_code 63 = .ok (.iload 4, 2) := by decide +kernel
theorem d_P_enlist_65 : decode prog_8_method_5_code 65 = .ok (.iconst 1, 1) := by decide +kernel
theorem d_P_enlist_66 : decode prog_8_method_5_code 66 = .ok (.iadd, 1) := by decide +kernel
theorem d_P_enlist_67 : decode prog_8_method_5_code 67 = .ok (.iastore, 1) := by decide +kernel
theorem d_P_enlist_68 : decode prog_8_method_5_code 68 = .ok (.iload 4, 2) := by decide +kernel
theorem d_P_enlist_70 : decode prog_8_method_5_code 70 = .ok (.iconst 1, 1) := by decide +kernel
theorem d_P_enlist_71 : decode prog_8_method_5_code 71 = .ok (.iadd, 1) := by decide +kernel
theorem d_P_enlist_72 : decode prog_8_method_5_code 72 = .ok (.ireturn, 1) := by decide +kernel
theorem d_P_strike_0 : decode prog_8_method_6_code 0 = .ok (.aload_n 0, 1) := by decide +kernel
theorem d_P_strike_1 : decode prog_8_method_6_code 1 = .ok (.getfield 26, 3) := by decide +kernel
theorem d_P_strike_4 : decode prog_8_method_6_code 4 = .ok (.iload_n 1, 1) := by decide +kernel
theorem d_P_strike_5 : decode prog_8_method_6_code 5 = .ok (.iaload, 1) := by decide +kernel
theorem d_P_strike_6 : decode prog_8_method_6_code 6 = .ok (.istore_n 2, 1) := by decide +kernel
theorem d_P_strike_7 : decode prog_8_method_6_code 7 = .ok (.iconst 0, 1) := by decide +kernel
theorem d_P_strike_8 : decode prog_8_method_6_code 8 = .ok (.istore_n 3, 1) := by decide +kernel
theorem d_P_strike_9 : decode prog_8_method_6_code 9 = .ok (.iload_n 3, 1) := by decide +kernel
theorem d_P_strike_10 : decode prog_8_method_6_code 10 = .ok (.iload_n 2, 1) := by decide +kernel
theorem d_P_strike_11 : decode prog_8_method_6_code 11 = .ok (.if_icmp .ge 25, 3) := by decide +kernel
theorem d_P_strike_14 : decode prog_8_method_6_code 14 = .ok (.aload_n 0, 1) := by decide +kernel
theorem d_P_strike_15 : decode prog_8_method_6_code 15 = .ok (.getfield 32, 3) := by decide +kernel
theorem d_P_strike_18 : decode prog_8_method_6_code 18 = .ok (.aload_n 0, 1) := by decide +kernel
theorem d_P_strike_19 : decode prog_8_method_6_code 19 = .ok (.getfield 23, 3) := by decide +kernel
theorem d_P_strike_22 : decode prog_8_method_6_code 22 = .ok (.iload_n 1, 1) := by decide +kernel
theorem d_P_strike_23 : decode prog_8_method_6_code 23 = .ok (.iconst 5, 1) := by decide +kernel
theorem d_P_strike_24 : decode prog_8_method_6_code 24 = .ok (.imul, 1) := by decide +kernel
theorem d_P_strike_25 : decode prog_8_method_6_code 25 = .ok (.iload_n 3, 1) := by decide +kernel
theorem d_P_strike_26 : decode prog_8_method_6_code 26 = .ok (.iadd, 1) := by decide +kernel
theorem d_P_strike_27 : decode prog_8_method_6_code 27 = .ok (.iaload, 1) := by decide +kernel
theorem d_P_strike_28 : decode prog_8_method_6_code 28 = .ok (.iconst (-1), 1) := by decide +kernel
theorem d_P_strike_29 : decode prog_8_method_6_code 29 = .ok (.iastore, 1) := by decide +kernel
theorem d_P_strike_30 : decode prog_8_method_6_code 30 = .ok (.iinc 3 1, 3) := by decide +kernel
theorem d_P_strike_33 : decode prog_8_method_6_code 33 = .ok (.goto (-24), 3) := by decide +kernel
theorem d_P_strike_36 : decode prog_8_method_6_code 36 = .ok (.aload_n 0, 1) := by decide +kernel
theorem d_P_strike_37 : decode prog_8_method_6_code 37 = .ok (.getfield 26, 3) := by decide +kernel
theorem d_P_strike_40 : decode prog_8_method_6_code 40 = .ok (.iload_n 1, 1) := by decide +kernel
theorem d_P_strike_41 : decode prog_8_method_6_code 41 = .ok (.iconst 0, 1) := by decide +kernel
theorem d_P_strike_42 : decode prog_8_method_6_code 42 = .ok (.iastore, 1) := by decide +kernel
theorem d_P_strike_43 : decode prog_8_method_6_code 43 = .ok (.aload_n 0, 1) := by decide +kernel
theorem d_P_strike_44 : decode prog_8_method_6_code 44 = .ok (.getfield 29, 3) := by decide +kernel
theorem d_P_strike_47 : decode prog_8_method_6_code 47 = .ok (.iload_n 1, 1) := by decide +kernel
theorem d_P_strike_48 : decode prog_8_method_6_code 48 = .ok (.iconst 0, 1) := by decide +kernel
theorem d_P_strike_49 : decode prog_8_method_6_code 49 = .ok (.iastore, 1) := by decide +kernel
theorem d_P_strike_50 : decode prog_8_method_6_code 50 = .ok (.iload_n 2, 1) := by decide +kernel
theorem d_P_strike_51 : decode prog_8_method_6_code 51 = .ok (.ireturn, 1) := by decide +kernel
theorem d_P_isSingle_0 : decode prog_8_method_3_code 0 = .ok (.aload_n 0, 1) := by decide +kernel
theorem d_P_isSingle_1 : decode prog_8_method_3_code 1 = .ok (.iload_n 1, 1) := by decide +kernel
theorem d_P_isSingle_2 : decode prog_8_method_3_code 2 = .ok (.invokevirtual 48, 3) := by decide +kernel
theorem d_P_isSingle_5 : decode prog_8_method_3_code 5 = .ok (.ifCond .eq 17, 3) := by decide +kernel
theorem d_P_isSingle_8 : decode prog_8_method_3_code 8 = .ok (.aload_n 0, 1) := by decide +kernel
theorem d_P_isSingle_9 : decode prog_8_method_3_code 9 = .ok (.getfield 20, 3) := by decide +kernel
theorem d_P_isSingle_12 : decode prog_8_method_3_code 12 = .ok (.iload_n 1, 1) := by decide +kernel
theorem d_P_isSingle_13 : decode prog_8_method_3_code 13 = .ok (.iaload, 1) := by decide +kernel
theorem d_P_isSingle_14 : decode prog_8_method_3_code 14 = .ok (.iconst (-1), 1) := by decide +kernel
theorem d_P_isSingle_15 : decode prog_8_method_3_code 15 = .ok (.if_icmp .ne 7, 3) := by decide +kernel
theorem d_P_isSingle_18 : decode prog_8_method_3_code 18 = .ok (.iconst 1, 1) := by decide +kernel
theorem d_P_isSingle_19 : decode prog_8_method_3_code 19 = .ok (.goto 4, 3) := by decide +kernel
theorem d_P_isSingle_22 : decode prog_8_method_3_code 22 = .ok (.iconst 0, 1) := by decide +kernel
theorem d_P_isSingle_23 : decode prog_8_method_3_code 23 = .ok (.ireturn, 1) := by decide +kernel
