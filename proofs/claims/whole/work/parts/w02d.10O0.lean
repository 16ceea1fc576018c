theorem d_O_init_0 : decode prog_7_method_1_code 0 = .ok (.aload_n 0, 1) := by decide +kernel
theorem d_O_init_1 : decode prog_7_method_1_code 1 = .ok (.invokespecial 3, 3) := by decide +kernel
theorem d_O_init_4 : decode prog_7_method_1_code 4 = .ok (.aload_n 0, 1) := by decide +kernel
theorem d_O_init_5 : decode prog_7_method_1_code 5 = .ok (.bipush 35, 2) := by decide +kernel
theorem d_O_init_7 : decode prog_7_method_1_code 7 = .ok (.newarray .int, 2) := by decide +kernel
theorem d_O_init_9 : decode prog_7_method_1_code 9 = .ok (.putfield 11, 3) := by decide +kernel
theorem d_O_init_12 : decode prog_7_method_1_code 12 = .ok (.aload_n 0, 1) := by decide +kernel
theorem d_O_init_13 : decode prog_7_method_1_code 13 = .ok (.bipush 7, 2) := by decide +kernel
theorem d_O_init_15 : decode prog_7_method_1_code 15 = .ok (.newarray .int, 2) := by decide +kernel
theorem d_O_init_17 : decode prog_7_method_1_code 17 = .ok (.putfield 17, 3) := by decide +kernel
theorem d_O_init_20 : decode prog_7_method_1_code 20 = .ok (.aload_n 0, 1) := by decide +kernel
theorem d_O_init_21 : decode prog_7_method_1_code 21 = .ok (.bipush 7, 2) := by decide +kernel
theorem d_O_init_23 : decode prog_7_method_1_code 23 = .ok (.newarray .int, 2) := by decide +kernel
theorem d_O_init_25 : decode prog_7_method_1_code 25 = .ok (.putfield 20, 3) := by decide +kernel
theorem d_O_init_28 : decode prog_7_method_1_code 28 = .ok (.aload_n 0, 1) := by decide +kernel
theorem d_O_init_29 : decode prog_7_method_1_code 29 = .ok (.aload_n 1, 1) := by decide +kernel
theorem d_O_init_30 : decode prog_7_method_1_code 30 = .ok (.putfield 23, 3) := by decide +kernel
theorem d_O_init_33 : decode prog_7_method_1_code 33 = .ok (.aload_n 0, 1) := by decide +kernel
theorem d_O_init_34 : decode prog_7_method_1_code 34 = .ok (.aload_n 2, 1) := by decide +kernel
theorem d_O_init_35 : decode prog_7_method_1_code 35 = .ok (.putfield 27, 3) := by decide +kernel
theorem d_O_init_38 : decode prog_7_method_1_code 38 = .ok (.aload_n 0, 1) := by decide +kernel
theorem d_O_init_39 : decode prog_7_method_1_code 39 = .ok (.aload_n 3, 1) := by decide +kernel
theorem d_O_init_40 : decode prog_7_method_1_code 40 = .ok (.putfield 31, 3) := by decide +kernel
theorem d_O_init_43 : decode prog_7_method_1_code 43 = .ok (.return_, 1) := by decide +kernel
theorem d_O_load_0 : decode prog_7_method_2_code 0 = .ok (.iconst 0, 1) := by decide +kernel
theorem d_O_load_1 : decode prog_7_method_2_code 1 = .ok (.istore_n 1, 1) := by decide +kernel
theorem d_O_load_2 : decode prog_7_method_2_code 2 = .ok (.iload_n 1, 1) := by decide +kernel
theorem d_O_load_3 : decode prog_7_method_2_code 3 = .ok (.iconst 4, 1) := by decide +kernel
theorem d_O_load_4 : decode prog_7_method_2_code 4 = .ok (.if_icmp .ge 19, 3) := by decide +kernel
theorem d_O_load_7 : decode prog_7_method_2_code 7 = .ok (.aload_n 0, 1) := by decide +kernel
theorem d_O_load_8 : decode prog_7_method_2_code 8 = .ok (.getfield 31, 3) := by decide +kernel
theorem d_O_load_11 : decode prog_7_method_2_code 11 = .ok (.iload_n 1, 1) := by decide +kernel
theorem d_O_load_12 : decode prog_7_method_2_code 12 = .ok (.aaload, 1) := by decide +kernel
theorem d_O_load_13 : decode prog_7_method_2_code 13 = .ok (.iconst 0, 1) := by decide +kernel
theorem d_O_load_14 : decode prog_7_method_2_code 14 = .ok (.invokevirtual 37, 3) := by decide +kernel
theorem d_O_load_17 : decode prog_7_method_2_code 17 = .ok (.iinc 1 1, 3) := by decide +kernel
theorem d_O_load_20 : decode prog_7_method_2_code 20 = .ok (.goto (-18), 3) := by decide +kernel
theorem d_O_load_23 : decode prog_7_method_2_code 23 = .ok (.iconst 0, 1) := by decide +kernel
theorem d_O_load_24 : decode prog_7_method_2_code 24 = .ok (.istore_n 1, 1) := by decide +kernel
theorem d_O_load_25 : decode prog_7_method_2_code 25 = .ok (.iload_n 1, 1) := by decide +kernel
theorem d_O_load_26 : decode prog_7_method_2_code 26 = .ok (.aload_n 0, 1) := by decide +kernel
theorem d_O_load_27 : decode prog_7_method_2_code 27 = .ok (.getfield 27, 3) := by decide +kernel
theorem d_O_load_30 : decode prog_7_method_2_code 30 = .ok (.getfield 41, 3) := by decide +kernel
theorem d_O_load_33 : decode prog_7_method_2_code 33 = .ok (.if_icmp .ge 65, 3) := by decide +kernel
theorem d_O_load_36 : decode prog_7_method_2_code 36 = .ok (.aload_n 0, 1) := by decide +kernel
theorem d_O_load_37 : decode prog_7_method_2_code 37 = .ok (.getfield 17, 3) := by decide +kernel
theorem d_O_load_40 : decode prog_7_method_2_code 40 = .ok (.iload_n 1, 1) := by decide +kernel
theorem d_O_load_41 : decode prog_7_method_2_code 41 = .ok (.aload_n 0, 1) := by decide +kernel
theorem d_O_load_42 : decode prog_7_method_2_code 42 = .ok (.getfield 27, 3) := by decide +kernel
theorem d_O_load_45 : decode prog_7_method_2_code 45 = .ok (.iload_n 1, 1) := by decide +kernel
theorem d_O_load_46 : decode prog_7_method_2_code 46 = .ok (.invokevirtual 45, 3) := by decide +kernel
theorem d_O_load_49 : decode prog_7_method_2_code 49 = .ok (.ifCond .eq 15, 3) := by decide +kernel
theorem d_O_load_52 : decode prog_7_method_2_code 52 = .ok (.aload_n 0, 1) := by decide +kernel
theorem d_O_load_53 : decode prog_7_method_2_code 53 = .ok (.getfield 27, 3) := by decide +kernel
theorem d_O_load_56 : decode prog_7_method_2_code 56 = .ok (.getfield 49, 3) := by decide +kernel
theorem d_O_load_59 : decode prog_7_method_2_code 59 = .ok (.iload_n 1, 1) := by decide +kernel
theorem d_O_load_60 : decode prog_7_method_2_code 60 = .ok (.iaload, 1) := by decide +kernel
theorem d_O_load_61 : decode prog_7_method_2_code 61 = .ok (.goto 4, 3) := by decide +kernel
theorem d_O_load_64 : decode prog_7_method_2_code 64 = .ok (.iconst 0, 1) := by decide +kernel
theorem d_O_load_65 : decode prog_7_method_2_code 65 = .ok (.iastore, 1) := by decide +kernel
theorem d_O_load_66 : decode prog_7_method_2_code 66 = .ok (.aload_n 0, 1) := by decide +kernel
theorem d_O_load_67 : decode prog_7_method_2_code 67 = .ok (.getfield 27, 3) := by decide +kernel
theorem d_O_load_70 : decode prog_7_method_2_code 70 = .ok (.getfield 50, 3) := by decide +kernel
theorem d_O_load_73 : decode prog_7_method_2_code 73 = .ok (.iload_n 1, 1) := by decide +kernel
theorem d_O_load_74 : decode prog_7_method_2_code 74 = .ok (.iconst 5, 1) := by decide +kernel
theorem d_O_load_75 : decode prog_7_method_2_code 75 = .ok (.imul, 1) := by decide +kernel
theorem d_O_load_76 : decode prog_7_method_2_code 76 = .ok (.aload_n 0, 1) := by decide +kernel
theorem d_O_load_77 : decode prog_7_method_2_code 77 = .ok (.getfield 11, 3) := by decide +kernel
theorem d_O_load_80 : decode prog_7_method_2_code 80 = .ok (.iload_n 1, 1) := by decide +kernel
theorem d_O_load_81 : decode prog_7_method_2_code 81 = .ok (.iconst 5, 1) := by decide +kernel
theorem d_O_load_82 : decode prog_7_method_2_code 82 = .ok (.imul, 1) := by decide +kernel
theorem d_O_load_83 : decode prog_7_method_2_code 83 = .ok (.aload_n 0, 1) := by decide +kernel
theorem d_O_load_84 : decode prog_7_method_2_code 84 = .ok (.getfield 17, 3) := by decide +kernel
theorem d_O_load_87 : decode prog_7_method_2_code 87 = .ok (.iload_n 1, 1) := by decide +kernel
theorem d_O_load_88 : decode prog_7_method_2_code 88 = .ok (.iaload, 1) := by decide +kernel
theorem d_O_load_89 : decode prog_7_method_2_code 89 = .ok (.invokestatic 51, 3) := by decide +kernel
theorem d_O_load_92 : decode prog_7_method_2_code 92 = .ok (.iinc 1 1, 3) := by decide +kernel
theorem d_O_load_95 : decode prog_7_method_2_code 95 = .ok (.goto (-70), 3) := by decide +kernel
theorem d_O_load_98 : decode prog_7_method_2_code 98 = .ok (.return_, 1) := by decide +kernel
theorem d_O_holds_0 : decode prog_7_method_7_code 0 = .ok (.iconst 0, 1) := by decide +kernel
theorem d_O_holds_1 : decode prog_7_method_7_code 1 = .ok (.istore_n 2, 1) := by decide +kernel
theorem d_O_holds_2 : decode prog_7_method_7_code 2 = .ok (.iconst 0, 1) := by decide +kernel
theorem d_O_holds_3 : decode prog_7_method_7_code 3 = .ok (.istore_n 3, 1) := by decide +kernel
theorem d_O_holds_4 : decode prog_7_method_7_code 4 = .ok (.iload_n 3, 1) := by decide +kernel
theorem d_O_holds_5 : decode prog_7_method_7_code 5 = .ok (.iconst 4, 1) := by decide +kernel
theorem d_O_holds_6 : decode prog_7_method_7_code 6 = .ok (.if_icmp .ge 40, 3) := by decide +kernel
theorem d_O_holds_9 : decode prog_7_method_7_code 9 = .ok (.aload_n 0, 1) := by decide +kernel
theorem d_O_holds_10 : decode prog_7_method_7_code 10 = .ok (.getfield 31, 3) := by decide +kernel
theorem d_O_holds_13 : decode prog_7_method_7_code 13 = .ok (.iload_n 3, 1) := by decide +kernel
theorem d_O_holds_14 : decode prog_7_method_7_code 14 = .ok (.aaload, 1) := by decide +kernel
theorem d_O_holds_15 : decode prog_7_method_7_code 15 = .ok (.getfield 100, 3) := by decide +kernel
theorem d_O_holds_18 : decode prog_7_method_7_code 18 = .ok (.iload_n 3, 1) := by decide +kernel
theorem d_O_holds_19 : decode prog_7_method_7_code 19 = .ok (.iload_n 1, 1) := by decide +kernel
theorem d_O_holds_20 : decode prog_7_method_7_code 20 = .ok (.invokestatic 103, 3) := by decide +kernel
theorem d_O_holds_23 : decode prog_7_method_7_code 23 = .ok (.iaload, 1) := by decide +kernel
theorem d_O_holds_24 : decode prog_7_method_7_code 24 = .ok (.sipush 255, 3) := by decide +kernel
theorem d_O_holds_27 : decode prog_7_method_7_code 27 = .ok (.iand, 1) := by decide +kernel
theorem d_O_holds_28 : decode prog_7_method_7_code 28 = .ok (.istore 4, 2) := by decide +kernel
theorem d_O_holds_30 : decode prog_7_method_7_code 30 = .ok (.iload_n 2, 1) := by decide +kernel
theorem d_O_holds_31 : decode prog_7_method_7_code 31 = .ok (.iload 4, 2) := by decide +kernel
theorem d_O_holds_33 : decode prog_7_method_7_code 33 = .ok (.iload_n 3, 1) := by decide +kernel
theorem d_O_holds_34 : decode prog_7_method_7_code 34 = .ok (.bipush 8, 2) := by decide +kernel
theorem d_O_holds_36 : decode prog_7_method_7_code 36 = .ok (.imul, 1) := by decide +kernel
theorem d_O_holds_37 : decode prog_7_method_7_code 37 = .ok (.ishl, 1) := by decide +kernel
theorem d_O_holds_38 : decode prog_7_method_7_code 38 = .ok (.ior, 1) := by decide +kernel
theorem d_O_holds_39 : decode prog_7_method_7_code 39 = .ok (.istore_n 2, 1) := by decide +kernel
theorem d_O_holds_40 : decode prog_7_method_7_code 40 = .ok (.iinc 3 1, 3) := by decide +kernel
theorem d_O_holds_43 : decode prog_7_method_7_code 43 = .ok (.goto (-39), 3) := by decide +kernel
theorem d_O_holds_46 : decode prog_7_method_7_code 46 = .ok (.iload_n 2, 1) := by decide +kernel
theorem d_O_holds_47 : decode prog_7_method_7_code 47 = .ok (.ireturn, 1) := by decide +kernel
theorem d_O_isHeldTwice_0 : decode prog_7_method_8_code 0 = .ok (.iconst 0, 1) := by decide +kernel
theorem d_O_isHeldTwice_1 : decode prog_7_method_8_code 1 = .ok (.istore_n 1, 1) := by decide +kernel
theorem d_O_isHeldTwice_2 : decode prog_7_method_8_code 2 = .ok (.iload_n 1, 1) := by decide +kernel
theorem d_O_isHeldTwice_3 : decode prog_7_method_8_code 3 = .ok (.aload_n 0, 1) := by decide +kernel
theorem d_O_isHeldTwice_4 : decode prog_7_method_8_code 4 = .ok (.getfield 27, 3) := by decide +kernel
theorem d_O_isHeldTwice_7 : decode prog_7_method_8_code 7 = .ok (.getfield 41, 3) := by decide +kernel
theorem d_O_isHeldTwice_10 : decode prog_7_method_8_code 10 = .ok (.if_icmp .ge 32, 3) := by decide +kernel
theorem d_O_isHeldTwice_13 : decode prog_7_method_8_code 13 = .ok (.aload_n 0, 1) := by decide +kernel
theorem d_O_isHeldTwice_14 : decode prog_7_method_8_code 14 = .ok (.getfield 74, 3) := by decide +kernel
theorem d_O_isHeldTwice_17 : decode prog_7_method_8_code 17 = .ok (.aload_n 0, 1) := by decide +kernel
theorem d_O_isHeldTwice_18 : decode prog_7_method_8_code 18 = .ok (.getfield 23, 3) := by decide +kernel
theorem d_O_isHeldTwice_21 : decode prog_7_method_8_code 21 = .ok (.getfield 94, 3) := by decide +kernel
theorem d_O_isHeldTwice_24 : decode prog_7_method_8_code 24 = .ok (.iload_n 1, 1) := by decide +kernel
theorem d_O_isHeldTwice_25 : decode prog_7_method_8_code 25 = .ok (.iaload, 1) := by decide +kernel
theorem d_O_isHeldTwice_26 : decode prog_7_method_8_code 26 = .ok (.iand, 1) := by decide +kernel
theorem d_O_isHeldTwice_27 : decode prog_7_method_8_code 27 = .ok (.invokestatic 85, 3) := by decide +kernel
theorem d_O_isHeldTwice_30 : decode prog_7_method_8_code 30 = .ok (.iconst 1, 1) := by decide +kernel
theorem d_O_isHeldTwice_31 : decode prog_7_method_8_code 31 = .ok (.if_icmp .le 5, 3) := by decide +kernel
theorem d_O_isHeldTwice_34 : decode prog_7_method_8_code 34 = .ok (.iconst 1, 1) := by decide +kernel
theorem d_O_isHeldTwice_35 : decode prog_7_method_8_code 35 = .ok (.ireturn, 1) := by decide +kernel
theorem d_O_isHeldTwice_36 : decode prog_7_method_8_code 36 = .ok (.iinc 1 1, 3) := by decide +kernel
theorem d_O_isHeldTwice_39 : decode prog_7_method_8_code 39 = .ok (.goto (-37), 3) := by decide +kernel
theorem d_O_isHeldTwice_42 : decode prog_7_method_8_code 42 = .ok (.iconst 0, 1) := by decide +kernel
theorem d_O_isHeldTwice_43 : decode prog_7_method_8_code 43 = .ok (.ireturn, 1) := by decide +kernel
theorem d_O_nextOffers_0 : decode prog_7_method_6_code 0 = .ok (.iconst 0, 1) := by decide +kernel
theorem d_O_nextOffers_1 : decode prog_7_method_6_code 1 = .ok (.istore_n 1, 1) := by decide +kernel
theorem d_O_nextOffers_2 : decode prog_7_method_6_code 2 = .ok (.iconst 0, 1) := by decide +kernel
theorem d_O_nextOffers_3 : decode prog_7_method_6_code 3 = .ok (.istore_n 2, 1) := by decide +kernel
theorem d_O_nextOffers_4 : decode prog_7_method_6_code 4 = .ok (.iload_n 2, 1) := by decide +kernel
theorem d_O_nextOffers_5 : decode prog_7_method_6_code 5 = .ok (.aload_n 0, 1) := by decide +kernel
theorem d_O_nextOffers_6 : decode prog_7_method_6_code 6 = .ok (.getfield 27, 3) := by decide +kernel
theorem d_O_nextOffers_9 : decode prog_7_method_6_code 9 = .ok (.getfield 41, 3) := by decide +kernel
theorem d_O_nextOffers_12 : decode prog_7_method_6_code 12 = .ok (.if_icmp .ge 79, 3) := by decide +kernel
theorem d_O_nextOffers_15 : decode prog_7_method_6_code 15 = .ok (.aload_n 0, 1) := by decide +kernel
theorem d_O_nextOffers_16 : decode prog_7_method_6_code 16 = .ok (.getfield 74, 3) := by decide +kernel
theorem d_O_nextOffers_19 : decode prog_7_method_6_code 19 = .ok (.aload_n 0, 1) := by decide +kernel
theorem d_O_nextOffers_20 : decode prog_7_method_6_code 20 = .ok (.getfield 23, 3) := by decide +kernel
theorem d_O_nextOffers_23 : decode prog_7_method_6_code 23 = .ok (.getfield 94, 3) := by decide +kernel
theorem d_O_nextOffers_26 : decode prog_7_method_6_code 26 = .ok (.iload_n 2, 1) := by decide +kernel
theorem d_O_nextOffers_27 : decode prog_7_method_6_code 27 = .ok (.iaload, 1) := by decide +kernel
theorem d_O_nextOffers_28 : decode prog_7_method_6_code 28 = .ok (.iand, 1) := by decide +kernel
theorem d_O_nextOffers_29 : decode prog_7_method_6_code 29 = .ok (.ifCond .ne 56, 3) := by decide +kernel
theorem d_O_nextOffers_32 : decode prog_7_method_6_code 32 = .ok (.aload_n 0, 1) := by decide +kernel
theorem d_O_nextOffers_33 : decode prog_7_method_6_code 33 = .ok (.getfield 20, 3) := by decide +kernel
theorem d_O_nextOffers_36 : decode prog_7_method_6_code 36 = .ok (.iload_n 2, 1) := by decide +kernel
theorem d_O_nextOffers_37 : decode prog_7_method_6_code 37 = .ok (.iaload, 1) := by decide +kernel
theorem d_O_nextOffers_38 : decode prog_7_method_6_code 38 = .ok (.aload_n 0, 1) := by decide +kernel
theorem d_O_nextOffers_39 : decode prog_7_method_6_code 39 = .ok (.getfield 17, 3) := by decide +kernel
theorem d_O_nextOffers_42 : decode prog_7_method_6_code 42 = .ok (.iload_n 2, 1) := by decide +kernel
theorem d_O_nextOffers_43 : decode prog_7_method_6_code 43 = .ok (.iaload, 1) := by decide +kernel
theorem d_O_nextOffers_44 : decode prog_7_method_6_code 44 = .ok (.if_icmp .ge 41, 3) := by decide +kernel
theorem d_O_nextOffers_47 : decode prog_7_method_6_code 47 = .ok (.iload_n 1, 1) := by decide +kernel
theorem d_O_nextOffers_48 : decode prog_7_method_6_code 48 = .ok (.iconst 1, 1) := by decide +kernel
theorem d_O_nextOffers_49 : decode prog_7_method_6_code 49 = .ok (.aload_n 0, 1) := by decide +kernel
theorem d_O_nextOffers_50 : decode prog_7_method_6_code 50 = .ok (.getfield 23, 3) := by decide +kernel
theorem d_O_nextOffers_53 : decode prog_7_method_6_code 53 = .ok (.getfield 97, 3) := by decide +kernel
theorem d_O_nextOffers_56 : decode prog_7_method_6_code 56 = .ok (.aload_n 0, 1) := by decide +kernel
theorem d_O_nextOffers_57 : decode prog_7_method_6_code 57 = .ok (.getfield 11, 3) := by decide +kernel
theorem d_O_nextOffers_60 : decode prog_7_method_6_code 60 = .ok (.iload_n 2, 1) := by decide +kernel
theorem d_O_nextOffers_61 : decode prog_7_method_6_code 61 = .ok (.iconst 5, 1) := by decide +kernel
theorem d_O_nextOffers_62 : decode prog_7_method_6_code 62 = .ok (.imul, 1) := by decide +kernel
theorem d_O_nextOffers_63 : decode prog_7_method_6_code 63 = .ok (.aload_n 0, 1) := by decide +kernel
theorem d_O_nextOffers_64 : decode prog_7_method_6_code 64 = .ok (.getfield 20, 3) := by decide +kernel
theorem d_O_nextOffers_67 : decode prog_7_method_6_code 67 = .ok (.iload_n 2, 1) := by decide +kernel
theorem d_O_nextOffers_68 : decode prog_7_method_6_code 68 = .ok (.iaload, 1) := by decide +kernel
theorem d_O_nextOffers_69 : decode prog_7_method_6_code 69 = .ok (.iadd, 1) := by decide +kernel
theorem d_O_nextOffers_70 : decode prog_7_method_6_code 70 = .ok (.iaload, 1) := by decide +kernel
theorem d_O_nextOffers_71 : decode prog_7_method_6_code 71 = .ok (.iaload, 1) := by decide +kernel
theorem d_O_nextOffers_72 : decode prog_7_method_6_code 72 = .ok (.ishl, 1) := by decide +kernel
theorem d_O_nextOffers_73 : decode prog_7_method_6_code 73 = .ok (.ior, 1) := by decide +kernel
theorem d_O_nextOffers_74 : decode prog_7_method_6_code 74 = .ok (.istore_n 1, 1) := by decide +kernel
theorem d_O_nextOffers_75 : decode prog_7_method_6_code 75 = .ok (.aload_n 0, 1) := by decide +kernel
theorem d_O_nextOffers_76 : decode prog_7_method_6_code 76 = .ok (.getfield 20, 3) := by decide +kernel
theorem d_O_nextOffers_79 : decode prog_7_method_6_code 79 = .ok (.iload_n 2, 1) := by decide +kernel
theorem d_O_nextOffers_80 : decode prog_7_method_6_code 80 = .ok (.dup2, 1) := by decide +kernel
theorem d_O_nextOffers_81 : decode prog_7_method_6_code 81 = .ok (.iaload, 1) := by decide +kernel
theorem d_O_nextOffers_82 : decode prog_7_method_6_code 82 = .ok (.iconst 1, 1) := by decide +kernel
theorem d_O_nextOffers_83 : decode prog_7_method_6_code 83 = .ok (.iadd, 1) := by decide +kernel
theorem d_O_nextOffers_84 : decode prog_7_method_6_code 84 = .ok (.iastore, 1) := by decide +kernel
theorem d_O_nextOffers_85 : decode prog_7_method_6_code 85 = .ok (.iinc 2 1, 3) := by decide +kernel
theorem d_O_nextOffers_88 : decode prog_7_method_6_code 88 = .ok (.goto (-84), 3) := by decide +kernel
theorem d_O_nextOffers_91 : decode prog_7_method_6_code 91 = .ok (.iload_n 1, 1) := by decide +kernel
theorem d_O_nextOffers_92 : decode prog_7_method_6_code 92 = .ok (.ireturn, 1) := by decide +kernel
theorem d_O_run_0 : decode prog_7_method_5_code 0 = .ok (.aload_n 0, 1) := by decide +kernel
theorem d_O_run_1 : decode prog_7_method_5_code 1 = .ok (.getfield 20, 3) := by decide +kernel
theorem d_O_run_4 : decode prog_7_method_5_code 4 = .ok (.iconst 0, 1) := by decide +kernel
theorem d_O_run_5 : decode prog_7_method_5_code 5 = .ok (.invokestatic 62, 3) := by decide +kernel
theorem d_O_run_8 : decode prog_7_method_5_code 8 = .ok (.aload_n 0, 1) := by decide +kernel
theorem d_O_run_9 : decode prog_7_method_5_code 9 = .ok (.iconst 0, 1) := by decide +kernel
theorem d_O_run_10 : decode prog_7_method_5_code 10 = .ok (.putfield 68, 3) := by decide +kernel
theorem d_O_run_13 : decode prog_7_method_5_code 13 = .ok (.aload_n 0, 1) := by decide +kernel
theorem d_O_run_14 : decode prog_7_method_5_code 14 = .ok (.iconst 0, 1) := by decide +kernel
theorem d_O_run_15 : decode prog_7_method_5_code 15 = .ok (.putfield 71, 3) := by decide +kernel
theorem d_O_run_18 : decode prog_7_method_5_code 18 = .ok (.aload_n 0, 1) := by decide +kernel
theorem d_O_run_19 : decode prog_7_method_5_code 19 = .ok (.iconst 0, 1) := by decide +kernel
theorem d_O_run_20 : decode prog_7_method_5_code 20 = .ok (.putfield 74, 3) := by decide +kernel
theorem d_O_run_23 : decode prog_7_method_5_code 23 = .ok (.iconst 0, 1) := by decide +kernel
theorem d_O_run_24 : decode prog_7_method_5_code 24 = .ok (.istore_n 1, 1) := by decide +kernel
theorem d_O_run_25 : decode prog_7_method_5_code 25 = .ok (.iconst 0, 1) := by decide +kernel
theorem d_O_run_26 : decode prog_7_method_5_code 26 = .ok (.istore_n 2, 1) := by decide +kernel
theorem d_O_run_27 : decode prog_7_method_5_code 27 = .ok (.iload_n 2, 1) := by decide +kernel
theorem d_O_run_28 : decode prog_7_method_5_code 28 = .ok (.bipush 20, 2) := by decide +kernel
theorem d_O_run_30 : decode prog_7_method_5_code 30 = .ok (.if_icmp .ge 44, 3) := by decide +kernel
theorem d_O_run_33 : decode prog_7_method_5_code 33 = .ok (.aload_n 0, 1) := by decide +kernel
theorem d_O_run_34 : decode prog_7_method_5_code 34 = .ok (.invokevirtual 77, 3) := by decide +kernel
theorem d_O_run_37 : decode prog_7_method_5_code 37 = .ok (.istore_n 3, 1) := by decide +kernel
theorem d_O_run_38 : decode prog_7_method_5_code 38 = .ok (.iload_n 3, 1) := by decide +kernel
theorem d_O_run_39 : decode prog_7_method_5_code 39 = .ok (.ifCond .ne 6, 3) := by decide +kernel
theorem d_O_run_42 : decode prog_7_method_5_code 42 = .ok (.goto 32, 3) := by decide +kernel
theorem d_O_run_45 : decode prog_7_method_5_code 45 = .ok (.iload_n 1, 1) := by decide +kernel
theorem d_O_run_46 : decode prog_7_method_5_code 46 = .ok (.iload_n 3, 1) := by decide +kernel
theorem d_O_run_47 : decode prog_7_method_5_code 47 = .ok (.ior, 1) := by decide +kernel
theorem d_O_run_48 : decode prog_7_method_5_code 48 = .ok (.istore_n 1, 1) := by decide +kernel
theorem d_O_run_49 : decode prog_7_method_5_code 49 = .ok (.aload_n 0, 1) := by decide +kernel
theorem d_O_run_50 : decode prog_7_method_5_code 50 = .ok (.dup, 1) := by decide +kernel
theorem d_O_run_51 : decode prog_7_method_5_code 51 = .ok (.getfield 68, 3) := by decide +kernel
theorem d_O_run_54 : decode prog_7_method_5_code 54 = .ok (.iconst 1, 1) := by decide +kernel
theorem d_O_run_55 : decode prog_7_method_5_code 55 = .ok (.iadd, 1) := by decide +kernel
theorem d_O_run_56 : decode prog_7_method_5_code 56 = .ok (.putfield 68, 3) := by decide +kernel
theorem d_O_run_59 : decode prog_7_method_5_code 59 = .ok (.aload_n 0, 1) := by decide +kernel
theorem d_O_run_60 : decode prog_7_method_5_code 60 = .ok (.aload_n 0, 1) := by decide +kernel
theorem d_O_run_61 : decode prog_7_method_5_code 61 = .ok (.iload_n 1, 1) := by decide +kernel
theorem d_O_run_62 : decode prog_7_method_5_code 62 = .ok (.invokevirtual 81, 3) := by decide +kernel
theorem d_O_run_65 : decode prog_7_method_5_code 65 = .ok (.putfield 74, 3) := by decide +kernel
theorem d_O_run_68 : decode prog_7_method_5_code 68 = .ok (.iinc 2 1, 3) := by decide +kernel
theorem d_O_run_71 : decode prog_7_method_5_code 71 = .ok (.goto (-44), 3) := by decide +kernel
theorem d_O_run_74 : decode prog_7_method_5_code 74 = .ok (.aload_n 0, 1) := by decide +kernel
theorem d_O_run_75 : decode prog_7_method_5_code 75 = .ok (.iload_n 1, 1) := by decide +kernel
theorem d_O_run_76 : decode prog_7_method_5_code 76 = .ok (.invokestatic 85, 3) := by decide +kernel
theorem d_O_run_79 : decode prog_7_method_5_code 79 = .ok (.putfield 71, 3) := by decide +kernel
theorem d_O_run_82 : decode prog_7_method_5_code 82 = .ok (.aload_n 0, 1) := by decide +kernel
theorem d_O_run_83 : decode prog_7_method_5_code 83 = .ok (.invokevirtual 90, 3) := by decide +kernel
theorem d_O_run_86 : decode prog_7_method_5_code 86 = .ok (.ifCond .ne 7, 3) := by decide +kernel
theorem d_O_run_89 : decode prog_7_method_5_code 89 = .ok (.iconst 1, 1) := by decide +kernel
theorem d_O_run_90 : decode prog_7_method_5_code 90 = .ok (.goto 4, 3) := by decide +kernel
theorem d_O_run_93 : decode prog_7_method_5_code 93 = .ok (.iconst 0, 1) := by decide +kernel
theorem d_O_run_94 : decode prog_7_method_5_code 94 = .ok (.ireturn, 1) := by decide +kernel
theorem d_O_rankHeldBy_0 : decode prog_7_method_9_code 0 = .ok (.aload_n 0, 1) := by decide +kernel
theorem d_O_rankHeldBy_1 : decode prog_7_method_9_code 1 = .ok (.getfield 74, 3) := by decide +kernel
theorem d_O_rankHeldBy_4 : decode prog_7_method_9_code 4 = .ok (.aload_n 0, 1) := by decide +kernel
theorem d_O_rankHeldBy_5 : decode prog_7_method_9_code 5 = .ok (.getfield 23, 3) := by decide +kernel
theorem d_O_rankHeldBy_8 : decode prog_7_method_9_code 8 = .ok (.getfield 94, 3) := by decide +kernel
theorem d_O_rankHeldBy_11 : decode prog_7_method_9_code 11 = .ok (.iload_n 1, 1) := by decide +kernel
theorem d_O_rankHeldBy_12 : decode prog_7_method_9_code 12 = .ok (.iaload, 1) := by decide +kernel
theorem d_O_rankHeldBy_13 : decode prog_7_method_9_code 13 = .ok (.iand, 1) := by decide +kernel
theorem d_O_rankHeldBy_14 : decode prog_7_method_9_code 14 = .ok (.istore_n 2, 1) := by decide +kernel
theorem d_O_rankHeldBy_15 : decode prog_7_method_9_code 15 = .ok (.iload_n 2, 1) := by decide +kernel
theorem d_O_rankHeldBy_16 : decode prog_7_method_9_code 16 = .ok (.ifCond .ne 13, 3) := by decide +kernel
theorem d_O_rankHeldBy_19 : decode prog_7_method_9_code 19 = .ok (.aload_n 0, 1) := by decide +kernel
theorem d_O_rankHeldBy_20 : decode prog_7_method_9_code 20 = .ok (.getfield 27, 3) := by decide +kernel
theorem d_O_rankHeldBy_23 : decode prog_7_method_9_code 23 = .ok (.getfield 49, 3) := by decide +kernel
theorem d_O_rankHeldBy_26 : decode prog_7_method_9_code 26 = .ok (.iload_n 1, 1) := by decide +kernel
theorem d_O_rankHeldBy_27 : decode prog_7_method_9_code 27 = .ok (.iaload, 1) := by decide +kernel
theorem d_O_rankHeldBy_28 : decode prog_7_method_9_code 28 = .ok (.ireturn, 1) := by decide +kernel
theorem d_O_rankHeldBy_29 : decode prog_7_method_9_code 29 = .ok (.aload_n 0, 1) := by decide +kernel
theorem d_O_rankHeldBy_30 : decode prog_7_method_9_code 30 = .ok (.getfield 27, 3) := by decide +kernel
theorem d_O_rankHeldBy_33 : decode prog_7_method_9_code 33 = .ok (.getfield 107, 3) := by decide +kernel
theorem d_O_rankHeldBy_36 : decode prog_7_method_9_code 36 = .ok (.aload_n 0, 1) := by decide +kernel
theorem d_O_rankHeldBy_37 : decode prog_7_method_9_code 37 = .ok (.getfield 23, 3) := by decide +kernel
theorem d_O_rankHeldBy_40 : decode prog_7_method_9_code 40 = .ok (.getfield 110, 3) := by decide +kernel
theorem d_O_rankHeldBy_43 : decode prog_7_method_9_code 43 = .ok (.iload_n 2, 1) := by decide +kernel
theorem d_O_rankHeldBy_44 : decode prog_7_method_9_code 44 = .ok (.invokestatic 113, 3) := by decide +kernel
theorem d_O_rankHeldBy_47 : decode prog_7_method_9_code 47 = .ok (.iaload, 1) := by decide +kernel
theorem d_O_rankHeldBy_48 : decode prog_7_method_9_code 48 = .ok (.iaload, 1) := by decide +kernel
theorem d_O_rankHeldBy_49 : decode prog_7_method_9_code 49 = .ok (.istore_n 3, 1) := by decide +kernel
theorem d_O_rankHeldBy_50 : decode prog_7_method_9_code 50 = .ok (.iload_n 3, 1) := by decide +kernel
theorem d_O_rankHeldBy_51 : decode prog_7_method_9_code 51 = .ok (.iconst (-1), 1) := by decide +kernel
theorem d_O_rankHeldBy_52 : decode prog_7_method_9_code 52 = .ok (.if_icmp .ne 8, 3) := by decide +kernel
theorem d_O_rankHeldBy_55 : decode prog_7_method_9_code 55 = .ok (.bipush 6, 2) := by decide +kernel
theorem d_O_rankHeldBy_57 : decode prog_7_method_9_code 57 = .ok (.goto 4, 3) := by decide +kernel
theorem d_O_rankHeldBy_60 : decode prog_7_method_9_code 60 = .ok (.iload_n 3, 1) := by decide +kernel
theorem d_O_rankHeldBy_61 : decode prog_7_method_9_code 61 = .ok (.ireturn, 1) := by decide +kernel
theorem d_O_gainsByLie_0 : decode prog_7_method_10_code 0 = .ok (.iload 4, 2) := by decide +kernel
theorem d_O_gainsByLie_2 : decode prog_7_method_10_code 2 = .ok (.iload_n 3, 1) := by decide +kernel
theorem d_O_gainsByLie_3 : decode prog_7_method_10_code 3 = .ok (.if_icmp .ge 9, 3) := by decide +kernel
theorem d_O_gainsByLie_6 : decode prog_7_method_10_code 6 = .ok (.iload 4, 2) := by decide +kernel
theorem d_O_gainsByLie_8 : decode prog_7_method_10_code 8 = .ok (.iconst 5, 1) := by decide +kernel
theorem d_O_gainsByLie_9 : decode prog_7_method_10_code 9 = .ok (.if_icmp .lt 32, 3) := by decide +kernel
theorem d_O_gainsByLie_12 : decode prog_7_method_10_code 12 = .ok (.aload_n 0, 1) := by decide +kernel
theorem d_O_gainsByLie_13 : decode prog_7_method_10_code 13 = .ok (.getfield 17, 3) := by decide +kernel
theorem d_O_gainsByLie_16 : decode prog_7_method_10_code 16 = .ok (.iload_n 1, 1) := by decide +kernel
theorem d_O_gainsByLie_17 : decode prog_7_method_10_code 17 = .ok (.iload_n 3, 1) := by decide +kernel
theorem d_O_gainsByLie_18 : decode prog_7_method_10_code 18 = .ok (.iastore, 1) := by decide +kernel
theorem d_O_gainsByLie_19 : decode prog_7_method_10_code 19 = .ok (.aload_n 0, 1) := by decide +kernel
theorem d_O_gainsByLie_20 : decode prog_7_method_10_code 20 = .ok (.invokevirtual 116, 3) := by decide +kernel
theorem d_O_gainsByLie_23 : decode prog_7_method_10_code 23 = .ok (.ifCond .eq 16, 3) := by decide +kernel
theorem d_O_gainsByLie_26 : decode prog_7_method_10_code 26 = .ok (.aload_n 0, 1) := by decide +kernel
theorem d_O_gainsByLie_27 : decode prog_7_method_10_code 27 = .ok (.iload_n 1, 1) := by decide +kernel
theorem d_O_gainsByLie_28 : decode prog_7_method_10_code 28 = .ok (.invokevirtual 119, 3) := by decide +kernel
theorem d_O_gainsByLie_31 : decode prog_7_method_10_code 31 = .ok (.iload_n 2, 1) := by decide +kernel
theorem d_O_gainsByLie_32 : decode prog_7_method_10_code 32 = .ok (.if_icmp .ge 7, 3) := by decide +kernel
theorem d_O_gainsByLie_35 : decode prog_7_method_10_code 35 = .ok (.iconst 1, 1) := by decide +kernel
theorem d_O_gainsByLie_36 : decode prog_7_method_10_code 36 = .ok (.goto 4, 3) := by decide +kernel
theorem d_O_gainsByLie_39 : decode prog_7_method_10_code 39 = .ok (.iconst 0, 1) := by decide +kernel
theorem d_O_gainsByLie_40 : decode prog_7_method_10_code 40 = .ok (.ireturn, 1) := by decide +kernel
theorem d_O_gainsByLie_41 : decode prog_7_method_10_code 41 = .ok (.iconst 0, 1) := by decide +kernel
theorem d_O_gainsByLie_42 : decode prog_7_method_10_code 42 = .ok (.istore 6, 2) := by decide +kernel
theorem d_O_gainsByLie_44 : decode prog_7_method_10_code 44 = .ok (.iload 6, 2) := by decide +kernel
theorem d_O_gainsByLie_46 : decode prog_7_method_10_code 46 = .ok (.aload_n 0, 1) := by decide +kernel
theorem d_O_gainsByLie_47 : decode prog_7_method_10_code 47 = .ok (.getfield 23, 3) := by decide +kernel
theorem d_O_gainsByLie_50 : decode prog_7_method_10_code 50 = .ok (.getfield 122, 3) := by decide +kernel
theorem d_O_gainsByLie_53 : decode prog_7_method_10_code 53 = .ok (.iload_n 1, 1) := by decide +kernel
theorem d_O_gainsByLie_54 : decode prog_7_method_10_code 54 = .ok (.iaload, 1) := by decide +kernel
theorem d_O_gainsByLie_55 : decode prog_7_method_10_code 55 = .ok (.if_icmp .ge 67, 3) := by decide +kernel
theorem d_O_gainsByLie_58 : decode prog_7_method_10_code 58 = .ok (.iload 5, 2) := by decide +kernel
theorem d_O_gainsByLie_60 : decode prog_7_method_10_code 60 = .ok (.iload 6, 2) := by decide +kernel
theorem d_O_gainsByLie_62 : decode prog_7_method_10_code 62 = .ok (.iushr, 1) := by decide +kernel
theorem d_O_gainsByLie_63 : decode prog_7_method_10_code 63 = .ok (.iconst 1, 1) := by decide +kernel
theorem d_O_gainsByLie_64 : decode prog_7_method_10_code 64 = .ok (.iand, 1) := by decide +kernel
theorem d_O_gainsByLie_65 : decode prog_7_method_10_code 65 = .ok (.ifCond .ne 51, 3) := by decide +kernel
theorem d_O_gainsByLie_68 : decode prog_7_method_10_code 68 = .ok (.aload_n 0, 1) := by decide +kernel
theorem d_O_gainsByLie_69 : decode prog_7_method_10_code 69 = .ok (.getfield 11, 3) := by decide +kernel
theorem d_O_gainsByLie_72 : decode prog_7_method_10_code 72 = .ok (.iload_n 1, 1) := by decide +kernel
theorem d_O_gainsByLie_73 : decode prog_7_method_10_code 73 = .ok (.iconst 5, 1) := by decide +kernel
theorem d_O_gainsByLie_74 : decode prog_7_method_10_code 74 = .ok (.imul, 1) := by decide +kernel
theorem d_O_gainsByLie_75 : decode prog_7_method_10_code 75 = .ok (.iload 4, 2) := by decide +kernel
theorem d_O_gainsByLie_77 : decode prog_7_method_10_code 77 = .ok (.iadd, 1) := by decide +kernel
theorem d_O_gainsByLie_78 : decode prog_7_method_10_code 78 = .ok (.aload_n 0, 1) := by decide +kernel
theorem d_O_gainsByLie_79 : decode prog_7_method_10_code 79 = .ok (.getfield 23, 3) := by decide +kernel
theorem d_O_gainsByLie_82 : decode prog_7_method_10_code 82 = .ok (.getfield 125, 3) := by decide +kernel
theorem d_O_gainsByLie_85 : decode prog_7_method_10_code 85 = .ok (.iload_n 1, 1) := by decide +kernel
theorem d_O_gainsByLie_86 : decode prog_7_method_10_code 86 = .ok (.iconst 5, 1) := by decide +kernel
theorem d_O_gainsByLie_87 : decode prog_7_method_10_code 87 = .ok (.imul, 1) := by decide +kernel
theorem d_O_gainsByLie_88 : decode prog_7_method_10_code 88 = .ok (.iload 6, 2) := by decide +kernel
theorem d_O_gainsByLie_90 : decode prog_7_method_10_code 90 = .ok (.iadd, 1) := by decide +kernel
theorem d_O_gainsByLie_91 : decode prog_7_method_10_code 91 = .ok (.iaload, 1) := by decide +kernel
theorem d_O_gainsByLie_92 : decode prog_7_method_10_code 92 = .ok (.iastore, 1) := by decide +kernel
theorem d_O_gainsByLie_93 : decode prog_7_method_10_code 93 = .ok (.aload_n 0, 1) := by decide +kernel
theorem d_O_gainsByLie_94 : decode prog_7_method_10_code 94 = .ok (.iload_n 1, 1) := by decide +kernel
theorem d_O_gainsByLie_95 : decode prog_7_method_10_code 95 = .ok (.iload_n 2, 1) := by decide +kernel
theorem d_O_gainsByLie_96 : decode prog_7_method_10_code 96 = .ok (.iload_n 3, 1) := by decide +kernel
theorem d_O_gainsByLie_97 : decode prog_7_method_10_code 97 = .ok (.iload 4, 2) := by decide +kernel
theorem d_O_gainsByLie_99 : decode prog_7_method_10_code 99 = .ok (.iconst 1, 1) := by decide +kernel
theorem d_O_gainsByLie_100 : decode prog_7_method_10_code 100 = .ok (.iadd, 1) := by decide +kernel
theorem d_O_gainsByLie_101 : decode prog_7_method_10_code 101 = .ok (.iload 5, 2) := by decide +kernel
theorem d_O_gainsByLie_103 : decode prog_7_method_10_code 103 = .ok (.iconst 1, 1) := by decide +kernel
theorem d_O_gainsByLie_104 : decode prog_7_method_10_code 104 = .ok (.iload 6, 2) := by decide +kernel
theorem d_O_gainsByLie_106 : decode prog_7_method_10_code 106 = .ok (.ishl, 1) := by decide +kernel
theorem d_O_gainsByLie_107 : decode prog_7_method_10_code 107 = .ok (.ior, 1) := by decide +kernel
theorem d_O_gainsByLie_108 : decode prog_7_method_10_code 108 = .ok (.invokevirtual 128, 3) := by decide +kernel
theorem d_O_gainsByLie_111 : decode prog_7_method_10_code 111 = .ok (.ifCond .eq 5, 3) := by decide +kernel
theorem d_O_gainsByLie_114 : decode prog_7_method_10_code 114 = .ok (.iconst 1, 1) := by decide +kernel
theorem d_O_gainsByLie_115 : decode prog_7_method_10_code 115 = .ok (.ireturn, 1) := by decide +kernel
theorem d_O_gainsByLie_116 : decode prog_7_method_10_code 116 = .ok (.iinc 6 1, 3) := by decide +kernel
theorem d_O_gainsByLie_119 : decode prog_7_method_10_code 119 = .ok (.goto (-75), 3) := by decide +kernel
theorem d_O_gainsByLie_122 : decode prog_7_method_10_code 122 = .ok (.iconst 0, 1) := by decide +kernel
theorem d_O_gainsByLie_123 : decode prog_7_method_10_code 123 = .ok (.ireturn, 1) := by decide +kernel
theorem d_O_silence_0 : decode prog_7_method_3_code 0 = .ok (.aload_n 0, 1) := by decide +kernel
theorem d_O_silence_1 : decode prog_7_method_3_code 1 = .ok (.getfield 17, 3) := by decide +kernel
theorem d_O_silence_4 : decode prog_7_method_3_code 4 = .ok (.iload_n 1, 1) := by decide +kernel
theorem d_O_silence_5 : decode prog_7_method_3_code 5 = .ok (.iconst 0, 1) := by decide +kernel
theorem d_O_silence_6 : decode prog_7_method_3_code 6 = .ok (.iastore, 1) := by decide +kernel
theorem d_O_silence_7 : decode prog_7_method_3_code 7 = .ok (.return_, 1) := by decide +kernel
theorem d_O_withdraw_0 : decode prog_7_method_4_code 0 = .ok (.aload_n 0, 1) := by decide +kernel
theorem d_O_withdraw_1 : decode prog_7_method_4_code 1 = .ok (.getfield 23, 3) := by decide +kernel
theorem d_O_withdraw_4 : decode prog_7_method_4_code 4 = .ok (.getfield 57, 3) := by decide +kernel
theorem d_O_withdraw_7 : decode prog_7_method_4_code 7 = .ok (.iload_n 1, 1) := by decide +kernel
theorem d_O_withdraw_8 : decode prog_7_method_4_code 8 = .ok (.iaload, 1) := by decide +kernel
theorem d_O_withdraw_9 : decode prog_7_method_4_code 9 = .ok (.istore_n 2, 1) := by decide +kernel
theorem d_O_withdraw_10 : decode prog_7_method_4_code 10 = .ok (.iload_n 2, 1) := by decide +kernel
theorem d_O_withdraw_11 : decode prog_7_method_4_code 11 = .ok (.iconst 5, 1) := by decide +kernel
theorem d_O_withdraw_12 : decode prog_7_method_4_code 12 = .ok (.imul, 1) := by decide +kernel
theorem d_O_withdraw_13 : decode prog_7_method_4_code 13 = .ok (.istore_n 3, 1) := by decide +kernel
theorem d_O_withdraw_14 : decode prog_7_method_4_code 14 = .ok (.iconst 0, 1) := by decide +kernel
theorem d_O_withdraw_15 : decode prog_7_method_4_code 15 = .ok (.istore 4, 2) := by decide +kernel
theorem d_O_withdraw_17 : decode prog_7_method_4_code 17 = .ok (.iconst 0, 1) := by decide +kernel
theorem d_O_withdraw_18 : decode prog_7_method_4_code 18 = .ok (.istore 5, 2) := by decide +kernel
theorem d_O_withdraw_20 : decode prog_7_method_4_code 20 = .ok (.iload 5, 2) := by decide +kernel
theorem d_O_withdraw_22 : decode prog_7_method_4_code 22 = .ok (.aload_n 0, 1) := by decide +kernel
theorem d_O_withdraw_23 : decode prog_7_method_4_code 23 = .ok (.getfield 17, 3) := by decide +kernel
theorem d_O_withdraw_26 : decode prog_7_method_4_code 26 = .ok (.iload_n 2, 1) := by decide +kernel
theorem d_O_withdraw_27 : decode prog_7_method_4_code 27 = .ok (.iaload, 1) := by decide +kernel
theorem d_O_withdraw_28 : decode prog_7_method_4_code 28 = .ok (.if_icmp .ge 43, 3) := by decide +kernel
theorem d_O_withdraw_31 : decode prog_7_method_4_code 31 = .ok (.aload_n 0, 1) := by decide +kernel
theorem d_O_withdraw_32 : decode prog_7_method_4_code 32 = .ok (.getfield 11, 3) := by decide +kernel
theorem d_O_withdraw_35 : decode prog_7_method_4_code 35 = .ok (.iload_n 3, 1) := by decide +kernel
theorem d_O_withdraw_36 : decode prog_7_method_4_code 36 = .ok (.iload 5, 2) := by decide +kernel
theorem d_O_withdraw_38 : decode prog_7_method_4_code 38 = .ok (.iadd, 1) := by decide +kernel
theorem d_O_withdraw_39 : decode prog_7_method_4_code 39 = .ok (.iaload, 1) := by decide +kernel
theorem d_O_withdraw_40 : decode prog_7_method_4_code 40 = .ok (.iload_n 1, 1) := by decide +kernel
theorem d_O_withdraw_41 : decode prog_7_method_4_code 41 = .ok (.if_icmp .eq 24, 3) := by decide +kernel
theorem d_O_withdraw_44 : decode prog_7_method_4_code 44 = .ok (.aload_n 0, 1) := by decide +kernel
theorem d_O_withdraw_45 : decode prog_7_method_4_code 45 = .ok (.getfield 11, 3) := by decide +kernel
theorem d_O_withdraw_48 : decode prog_7_method_4_code 48 = .ok (.iload_n 3, 1) := by decide +kernel
theorem d_O_withdraw_49 : decode prog_7_method_4_code 49 = .ok (.iload 4, 2) := by decide +kernel
theorem d_O_withdraw_51 : decode prog_7_method_4_code 51 = .ok (.iadd, 1) := by decide +kernel
theorem d_O_withdraw_52 : decode prog_7_method_4_code 52 = .ok (.aload_n 0, 1) := by decide +kernel
theorem d_O_withdraw_53 : decode prog_7_method_4_code 53 = .ok (.getfield 11, 3) := by decide +kernel
theorem d_O_withdraw_56 : decode prog_7_method_4_code 56 = .ok (.iload_n 3, 1) := by decide +kernel
theorem d_O_withdraw_57 : decode prog_7_method_4_code 57 = .ok (.iload 5, 2) := by decide +kernel
theorem d_O_withdraw_59 : decode prog_7_method_4_code 59 = .ok (.iadd, 1) := by decide +kernel
theorem d_O_withdraw_60 : decode prog_7_method_4_code 60 = .ok (.iaload, 1) := by decide +kernel
theorem d_O_withdraw_61 : decode prog_7_method_4_code 61 = .ok (.iastore, 1) := by decide +kernel
theorem d_O_withdraw_62 : decode prog_7_method_4_code 62 = .ok (.iinc 4 1, 3) := by decide +kernel
theorem d_O_withdraw_65 : decode prog_7_method_4_code 65 = .ok (.iinc 5 1, 3) := by decide +kernel
theorem d_O_withdraw_68 : decode prog_7_method_4_code 68 = .ok (.goto (-48), 3) := by decide +kernel
theorem d_O_withdraw_71 : decode prog_7_method_4_code 71 = .ok (.aload_n 0, 1) := by decide +kernel
theorem d_O_withdraw_72 : decode prog_7_method_4_code 72 = .ok (.getfield 17, 3) := by decide +kernel
theorem d_O_withdraw_75 : decode prog_7_method_4_code 75 = .ok (.iload_n 2, 1) := by decide +kernel
theorem d_O_withdraw_76 : decode prog_7_method_4_code 76 = .ok (.iload 4, 2) := by decide +kernel
theorem d_O_withdraw_78 : decode prog_7_method_4_code 78 = .ok (.iastore, 1) := by decide +kernel
theorem d_O_withdraw_79 : decode prog_7_method_4_code 79 = .ok (.return_, 1) := by decide +kernel
