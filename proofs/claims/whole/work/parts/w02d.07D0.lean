theorem d_D_init_0 : decode prog_5_method_1_code 0 = .ok (.aload_n 0, 1) := by decide +kernel
theorem d_D_init_1 : decode prog_5_method_1_code 1 = .ok (.invokespecial 1, 3) := by decide +kernel
theorem d_D_init_4 : decode prog_5_method_1_code 4 = .ok (.aload_n 0, 1) := by decide +kernel
theorem d_D_init_5 : decode prog_5_method_1_code 5 = .ok (.new 7, 3) := by decide +kernel
theorem d_D_init_8 : decode prog_5_method_1_code 8 = .ok (.dup, 1) := by decide +kernel
theorem d_D_init_9 : decode prog_5_method_1_code 9 = .ok (.invokespecial 9, 3) := by decide +kernel
theorem d_D_init_12 : decode prog_5_method_1_code 12 = .ok (.putfield 10, 3) := by decide +kernel
theorem d_D_init_15 : decode prog_5_method_1_code 15 = .ok (.aload_n 0, 1) := by decide +kernel
theorem d_D_init_16 : decode prog_5_method_1_code 16 = .ok (.sipush 1024, 3) := by decide +kernel
theorem d_D_init_19 : decode prog_5_method_1_code 19 = .ok (.newarray .int, 2) := by decide +kernel
theorem d_D_init_21 : decode prog_5_method_1_code 21 = .ok (.putfield 16, 3) := by decide +kernel
theorem d_D_init_24 : decode prog_5_method_1_code 24 = .ok (.aload_n 0, 1) := by decide +kernel
theorem d_D_init_25 : decode prog_5_method_1_code 25 = .ok (.sipush 256, 3) := by decide +kernel
theorem d_D_init_28 : decode prog_5_method_1_code 28 = .ok (.newarray .int, 2) := by decide +kernel
theorem d_D_init_30 : decode prog_5_method_1_code 30 = .ok (.putfield 20, 3) := by decide +kernel
theorem d_D_init_33 : decode prog_5_method_1_code 33 = .ok (.aload_n 0, 1) := by decide +kernel
theorem d_D_init_34 : decode prog_5_method_1_code 34 = .ok (.bipush 8, 2) := by decide +kernel
theorem d_D_init_36 : decode prog_5_method_1_code 36 = .ok (.newarray .int, 2) := by decide +kernel
theorem d_D_init_38 : decode prog_5_method_1_code 38 = .ok (.putfield 25, 3) := by decide +kernel
theorem d_D_init_41 : decode prog_5_method_1_code 41 = .ok (.aload_n 0, 1) := by decide +kernel
theorem d_D_init_42 : decode prog_5_method_1_code 42 = .ok (.iload_n 1, 1) := by decide +kernel
theorem d_D_init_43 : decode prog_5_method_1_code 43 = .ok (.putfield 28, 3) := by decide +kernel
theorem d_D_init_46 : decode prog_5_method_1_code 46 = .ok (.aload_n 0, 1) := by decide +kernel
theorem d_D_init_47 : decode prog_5_method_1_code 47 = .ok (.aload_n 2, 1) := by decide +kernel
theorem d_D_init_48 : decode prog_5_method_1_code 48 = .ok (.putfield 32, 3) := by decide +kernel
theorem d_D_init_51 : decode prog_5_method_1_code 51 = .ok (.aload_n 0, 1) := by decide +kernel
theorem d_D_init_52 : decode prog_5_method_1_code 52 = .ok (.aload_n 3, 1) := by decide +kernel
theorem d_D_init_53 : decode prog_5_method_1_code 53 = .ok (.putfield 36, 3) := by decide +kernel
theorem d_D_init_56 : decode prog_5_method_1_code 56 = .ok (.return_, 1) := by decide +kernel
theorem d_D_forget_0 : decode prog_5_method_2_code 0 = .ok (.aload_n 0, 1) := by decide +kernel
theorem d_D_forget_1 : decode prog_5_method_2_code 1 = .ok (.iconst 0, 1) := by decide +kernel
theorem d_D_forget_2 : decode prog_5_method_2_code 2 = .ok (.putfield 40, 3) := by decide +kernel
theorem d_D_forget_5 : decode prog_5_method_2_code 5 = .ok (.aload_n 0, 1) := by decide +kernel
theorem d_D_forget_6 : decode prog_5_method_2_code 6 = .ok (.iconst 0, 1) := by decide +kernel
theorem d_D_forget_7 : decode prog_5_method_2_code 7 = .ok (.putfield 44, 3) := by decide +kernel
theorem d_D_forget_10 : decode prog_5_method_2_code 10 = .ok (.return_, 1) := by decide +kernel
theorem d_D_bondAt_0 : decode prog_5_method_15_code 0 = .ok (.aload_n 0, 1) := by decide +kernel
theorem d_D_bondAt_1 : decode prog_5_method_15_code 1 = .ok (.getfield 32, 3) := by decide +kernel
theorem d_D_bondAt_4 : decode prog_5_method_15_code 4 = .ok (.getfield 148, 3) := by decide +kernel
theorem d_D_bondAt_7 : decode prog_5_method_15_code 7 = .ok (.aload_n 0, 1) := by decide +kernel
theorem d_D_bondAt_8 : decode prog_5_method_15_code 8 = .ok (.getfield 28, 3) := by decide +kernel
theorem d_D_bondAt_11 : decode prog_5_method_15_code 11 = .ok (.bipush 8, 2) := by decide +kernel
theorem d_D_bondAt_13 : decode prog_5_method_15_code 13 = .ok (.imul, 1) := by decide +kernel
theorem d_D_bondAt_14 : decode prog_5_method_15_code 14 = .ok (.iload_n 1, 1) := by decide +kernel
theorem d_D_bondAt_15 : decode prog_5_method_15_code 15 = .ok (.iadd, 1) := by decide +kernel
theorem d_D_bondAt_16 : decode prog_5_method_15_code 16 = .ok (.iaload, 1) := by decide +kernel
theorem d_D_bondAt_17 : decode prog_5_method_15_code 17 = .ok (.ireturn, 1) := by decide +kernel
theorem d_D_valueOf_0 : decode prog_5_method_14_code 0 = .ok (.iload_n 2, 1) := by decide +kernel
theorem d_D_valueOf_1 : decode prog_5_method_14_code 1 = .ok (.lookupswitch 91 #[(107, 73), (112, 43), (116, 63), (121, 53)], 43) := by decide +kernel
theorem d_D_valueOf_44 : decode prog_5_method_14_code 44 = .ok (.aload_n 0, 1) := by decide +kernel
theorem d_D_valueOf_45 : decode prog_5_method_14_code 45 = .ok (.getfield 32, 3) := by decide +kernel
theorem d_D_valueOf_48 : decode prog_5_method_14_code 48 = .ok (.getfield 86, 3) := by decide +kernel
theorem d_D_valueOf_51 : decode prog_5_method_14_code 51 = .ok (.iload_n 1, 1) := by decide +kernel
theorem d_D_valueOf_52 : decode prog_5_method_14_code 52 = .ok (.iaload, 1) := by decide +kernel
theorem d_D_valueOf_53 : decode prog_5_method_14_code 53 = .ok (.ireturn, 1) := by decide +kernel
theorem d_D_valueOf_54 : decode prog_5_method_14_code 54 = .ok (.aload_n 0, 1) := by decide +kernel
theorem d_D_valueOf_55 : decode prog_5_method_14_code 55 = .ok (.getfield 32, 3) := by decide +kernel
theorem d_D_valueOf_58 : decode prog_5_method_14_code 58 = .ok (.getfield 139, 3) := by decide +kernel
theorem d_D_valueOf_61 : decode prog_5_method_14_code 61 = .ok (.iload_n 1, 1) := by decide +kernel
theorem d_D_valueOf_62 : decode prog_5_method_14_code 62 = .ok (.iaload, 1) := by decide +kernel
theorem d_D_valueOf_63 : decode prog_5_method_14_code 63 = .ok (.ireturn, 1) := by decide +kernel
theorem d_D_valueOf_64 : decode prog_5_method_14_code 64 = .ok (.aload_n 0, 1) := by decide +kernel
theorem d_D_valueOf_65 : decode prog_5_method_14_code 65 = .ok (.getfield 32, 3) := by decide +kernel
theorem d_D_valueOf_68 : decode prog_5_method_14_code 68 = .ok (.getfield 142, 3) := by decide +kernel
theorem d_D_valueOf_71 : decode prog_5_method_14_code 71 = .ok (.iload_n 1, 1) := by decide +kernel
theorem d_D_valueOf_72 : decode prog_5_method_14_code 72 = .ok (.iaload, 1) := by decide +kernel
theorem d_D_valueOf_73 : decode prog_5_method_14_code 73 = .ok (.ireturn, 1) := by decide +kernel
theorem d_D_valueOf_74 : decode prog_5_method_14_code 74 = .ok (.aload_n 0, 1) := by decide +kernel
theorem d_D_valueOf_75 : decode prog_5_method_14_code 75 = .ok (.getfield 36, 3) := by decide +kernel
theorem d_D_valueOf_78 : decode prog_5_method_14_code 78 = .ok (.getfield 145, 3) := by decide +kernel
theorem d_D_valueOf_81 : decode prog_5_method_14_code 81 = .ok (.aload_n 0, 1) := by decide +kernel
theorem d_D_valueOf_82 : decode prog_5_method_14_code 82 = .ok (.getfield 32, 3) := by decide +kernel
theorem d_D_valueOf_85 : decode prog_5_method_14_code 85 = .ok (.getfield 83, 3) := by decide +kernel
theorem d_D_valueOf_88 : decode prog_5_method_14_code 88 = .ok (.iload_n 1, 1) := by decide +kernel
theorem d_D_valueOf_89 : decode prog_5_method_14_code 89 = .ok (.iaload, 1) := by decide +kernel
theorem d_D_valueOf_90 : decode prog_5_method_14_code 90 = .ok (.iaload, 1) := by decide +kernel
theorem d_D_valueOf_91 : decode prog_5_method_14_code 91 = .ok (.ireturn, 1) := by decide +kernel
theorem d_D_valueOf_92 : decode prog_5_method_14_code 92 = .ok (.aload_n 0, 1) := by decide +kernel
theorem d_D_valueOf_93 : decode prog_5_method_14_code 93 = .ok (.getfield 32, 3) := by decide +kernel
theorem d_D_valueOf_96 : decode prog_5_method_14_code 96 = .ok (.getfield 83, 3) := by decide +kernel
theorem d_D_valueOf_99 : decode prog_5_method_14_code 99 = .ok (.iload_n 1, 1) := by decide +kernel
theorem d_D_valueOf_100 : decode prog_5_method_14_code 100 = .ok (.iaload, 1) := by decide +kernel
theorem d_D_valueOf_101 : decode prog_5_method_14_code 101 = .ok (.ireturn, 1) := by decide +kernel
theorem d_D_isAhead_0 : decode prog_5_method_13_code 0 = .ok (.iconst 0, 1) := by decide +kernel
theorem d_D_isAhead_1 : decode prog_5_method_13_code 1 = .ok (.istore_n 3, 1) := by decide +kernel
theorem d_D_isAhead_2 : decode prog_5_method_13_code 2 = .ok (.iload_n 3, 1) := by decide +kernel
theorem d_D_isAhead_3 : decode prog_5_method_13_code 3 = .ok (.aload_n 0, 1) := by decide +kernel
theorem d_D_isAhead_4 : decode prog_5_method_13_code 4 = .ok (.getfield 10, 3) := by decide +kernel
theorem d_D_isAhead_7 : decode prog_5_method_13_code 7 = .ok (.getfield 127, 3) := by decide +kernel
theorem d_D_isAhead_10 : decode prog_5_method_13_code 10 = .ok (.if_icmp .ge 81, 3) := by decide +kernel
theorem d_D_isAhead_13 : decode prog_5_method_13_code 13 = .ok (.aload_n 0, 1) := by decide +kernel
theorem d_D_isAhead_14 : decode prog_5_method_13_code 14 = .ok (.iload_n 1, 1) := by decide +kernel
theorem d_D_isAhead_15 : decode prog_5_method_13_code 15 = .ok (.aload_n 0, 1) := by decide +kernel
theorem d_D_isAhead_16 : decode prog_5_method_13_code 16 = .ok (.getfield 10, 3) := by decide +kernel
theorem d_D_isAhead_19 : decode prog_5_method_13_code 19 = .ok (.getfield 130, 3) := by decide +kernel
theorem d_D_isAhead_22 : decode prog_5_method_13_code 22 = .ok (.iload_n 3, 1) := by decide +kernel
theorem d_D_isAhead_23 : decode prog_5_method_13_code 23 = .ok (.iaload, 1) := by decide +kernel
theorem d_D_isAhead_24 : decode prog_5_method_13_code 24 = .ok (.invokevirtual 133, 3) := by decide +kernel
theorem d_D_isAhead_27 : decode prog_5_method_13_code 27 = .ok (.aload_n 0, 1) := by decide +kernel
theorem d_D_isAhead_28 : decode prog_5_method_13_code 28 = .ok (.iload_n 2, 1) := by decide +kernel
theorem d_D_isAhead_29 : decode prog_5_method_13_code 29 = .ok (.aload_n 0, 1) := by decide +kernel
theorem d_D_isAhead_30 : decode prog_5_method_13_code 30 = .ok (.getfield 10, 3) := by decide +kernel
theorem d_D_isAhead_33 : decode prog_5_method_13_code 33 = .ok (.getfield 130, 3) := by decide +kernel
theorem d_D_isAhead_36 : decode prog_5_method_13_code 36 = .ok (.iload_n 3, 1) := by decide +kernel
theorem d_D_isAhead_37 : decode prog_5_method_13_code 37 = .ok (.iaload, 1) := by decide +kernel
theorem d_D_isAhead_38 : decode prog_5_method_13_code 38 = .ok (.invokevirtual 133, 3) := by decide +kernel
theorem d_D_isAhead_41 : decode prog_5_method_13_code 41 = .ok (.isub, 1) := by decide +kernel
theorem d_D_isAhead_42 : decode prog_5_method_13_code 42 = .ok (.istore 4, 2) := by decide +kernel
theorem d_D_isAhead_44 : decode prog_5_method_13_code 44 = .ok (.iload 4, 2) := by decide +kernel
theorem d_D_isAhead_46 : decode prog_5_method_13_code 46 = .ok (.ifCond .eq 39, 3) := by decide +kernel
theorem d_D_isAhead_49 : decode prog_5_method_13_code 49 = .ok (.iload 4, 2) := by decide +kernel
theorem d_D_isAhead_51 : decode prog_5_method_13_code 51 = .ok (.ifCond .le 7, 3) := by decide +kernel
theorem d_D_isAhead_54 : decode prog_5_method_13_code 54 = .ok (.iconst 1, 1) := by decide +kernel
theorem d_D_isAhead_55 : decode prog_5_method_13_code 55 = .ok (.goto 4, 3) := by decide +kernel
theorem d_D_isAhead_58 : decode prog_5_method_13_code 58 = .ok (.iconst 0, 1) := by decide +kernel
theorem d_D_isAhead_59 : decode prog_5_method_13_code 59 = .ok (.aload_n 0, 1) := by decide +kernel
theorem d_D_isAhead_60 : decode prog_5_method_13_code 60 = .ok (.getfield 10, 3) := by decide +kernel
theorem d_D_isAhead_63 : decode prog_5_method_13_code 63 = .ok (.getfield 136, 3) := by decide +kernel
theorem d_D_isAhead_66 : decode prog_5_method_13_code 66 = .ok (.iload_n 3, 1) := by decide +kernel
theorem d_D_isAhead_67 : decode prog_5_method_13_code 67 = .ok (.iaload, 1) := by decide +kernel
theorem d_D_isAhead_68 : decode prog_5_method_13_code 68 = .ok (.ifCond .le 7, 3) := by decide +kernel
theorem d_D_isAhead_71 : decode prog_5_method_13_code 71 = .ok (.iconst 1, 1) := by decide +kernel
theorem d_D_isAhead_72 : decode prog_5_method_13_code 72 = .ok (.goto 4, 3) := by decide +kernel
theorem d_D_isAhead_75 : decode prog_5_method_13_code 75 = .ok (.iconst 0, 1) := by decide +kernel
theorem d_D_isAhead_76 : decode prog_5_method_13_code 76 = .ok (.if_icmp .ne 7, 3) := by decide +kernel
theorem d_D_isAhead_79 : decode prog_5_method_13_code 79 = .ok (.iconst 1, 1) := by decide +kernel
theorem d_D_isAhead_80 : decode prog_5_method_13_code 80 = .ok (.goto 4, 3) := by decide +kernel
theorem d_D_isAhead_83 : decode prog_5_method_13_code 83 = .ok (.iconst 0, 1) := by decide +kernel
theorem d_D_isAhead_84 : decode prog_5_method_13_code 84 = .ok (.ireturn, 1) := by decide +kernel
theorem d_D_isAhead_85 : decode prog_5_method_13_code 85 = .ok (.iinc 3 1, 3) := by decide +kernel
theorem d_D_isAhead_88 : decode prog_5_method_13_code 88 = .ok (.goto (-86), 3) := by decide +kernel
theorem d_D_isAhead_91 : decode prog_5_method_13_code 91 = .ok (.iload_n 1, 1) := by decide +kernel
theorem d_D_isAhead_92 : decode prog_5_method_13_code 92 = .ok (.iload_n 2, 1) := by decide +kernel
theorem d_D_isAhead_93 : decode prog_5_method_13_code 93 = .ok (.if_icmp .ge 7, 3) := by decide +kernel
theorem d_D_isAhead_96 : decode prog_5_method_13_code 96 = .ok (.iconst 1, 1) := by decide +kernel
theorem d_D_isAhead_97 : decode prog_5_method_13_code 97 = .ok (.goto 4, 3) := by decide +kernel
theorem d_D_isAhead_100 : decode prog_5_method_13_code 100 = .ok (.iconst 0, 1) := by decide +kernel
theorem d_D_isAhead_101 : decode prog_5_method_13_code 101 = .ok (.ireturn, 1) := by decide +kernel
theorem d_D_arrange_0 : decode prog_5_method_12_code 0 = .ok (.aload_n 0, 1) := by decide +kernel
theorem d_D_arrange_1 : decode prog_5_method_12_code 1 = .ok (.getfield 40, 3) := by decide +kernel
theorem d_D_arrange_4 : decode prog_5_method_12_code 4 = .ok (.ifCond .eq 4, 3) := by decide +kernel
theorem d_D_arrange_7 : decode prog_5_method_12_code 7 = .ok (.return_, 1) := by decide +kernel
theorem d_D_arrange_8 : decode prog_5_method_12_code 8 = .ok (.aload_n 0, 1) := by decide +kernel
theorem d_D_arrange_9 : decode prog_5_method_12_code 9 = .ok (.getfield 32, 3) := by decide +kernel
theorem d_D_arrange_12 : decode prog_5_method_12_code 12 = .ok (.getfield 54, 3) := by decide +kernel
theorem d_D_arrange_15 : decode prog_5_method_12_code 15 = .ok (.aload_n 0, 1) := by decide +kernel
theorem d_D_arrange_16 : decode prog_5_method_12_code 16 = .ok (.getfield 28, 3) := by decide +kernel
theorem d_D_arrange_19 : decode prog_5_method_12_code 19 = .ok (.iaload, 1) := by decide +kernel
theorem d_D_arrange_20 : decode prog_5_method_12_code 20 = .ok (.istore_n 1, 1) := by decide +kernel
theorem d_D_arrange_21 : decode prog_5_method_12_code 21 = .ok (.iconst 0, 1) := by decide +kernel
theorem d_D_arrange_22 : decode prog_5_method_12_code 22 = .ok (.istore_n 2, 1) := by decide +kernel
theorem d_D_arrange_23 : decode prog_5_method_12_code 23 = .ok (.iload_n 2, 1) := by decide +kernel
theorem d_D_arrange_24 : decode prog_5_method_12_code 24 = .ok (.iload_n 1, 1) := by decide +kernel
theorem d_D_arrange_25 : decode prog_5_method_12_code 25 = .ok (.if_icmp .ge 61, 3) := by decide +kernel
theorem d_D_arrange_28 : decode prog_5_method_12_code 28 = .ok (.aload_n 0, 1) := by decide +kernel
theorem d_D_arrange_29 : decode prog_5_method_12_code 29 = .ok (.getfield 25, 3) := by decide +kernel
theorem d_D_arrange_32 : decode prog_5_method_12_code 32 = .ok (.iload_n 2, 1) := by decide +kernel
theorem d_D_arrange_33 : decode prog_5_method_12_code 33 = .ok (.iconst 0, 1) := by decide +kernel
theorem d_D_arrange_34 : decode prog_5_method_12_code 34 = .ok (.iastore, 1) := by decide +kernel
theorem d_D_arrange_35 : decode prog_5_method_12_code 35 = .ok (.iconst 0, 1) := by decide +kernel
theorem d_D_arrange_36 : decode prog_5_method_12_code 36 = .ok (.istore_n 3, 1) := by decide +kernel
theorem d_D_arrange_37 : decode prog_5_method_12_code 37 = .ok (.iload_n 3, 1) := by decide +kernel
theorem d_D_arrange_38 : decode prog_5_method_12_code 38 = .ok (.iload_n 1, 1) := by decide +kernel
theorem d_D_arrange_39 : decode prog_5_method_12_code 39 = .ok (.if_icmp .ge 41, 3) := by decide +kernel
theorem d_D_arrange_42 : decode prog_5_method_12_code 42 = .ok (.iload_n 2, 1) := by decide +kernel
theorem d_D_arrange_43 : decode prog_5_method_12_code 43 = .ok (.iload_n 3, 1) := by decide +kernel
theorem d_D_arrange_44 : decode prog_5_method_12_code 44 = .ok (.if_icmp .eq 30, 3) := by decide +kernel
theorem d_D_arrange_47 : decode prog_5_method_12_code 47 = .ok (.aload_n 0, 1) := by decide +kernel
theorem d_D_arrange_48 : decode prog_5_method_12_code 48 = .ok (.aload_n 0, 1) := by decide +kernel
theorem d_D_arrange_49 : decode prog_5_method_12_code 49 = .ok (.iload_n 3, 1) := by decide +kernel
theorem d_D_arrange_50 : decode prog_5_method_12_code 50 = .ok (.invokevirtual 80, 3) := by decide +kernel
theorem d_D_arrange_53 : decode prog_5_method_12_code 53 = .ok (.aload_n 0, 1) := by decide +kernel
theorem d_D_arrange_54 : decode prog_5_method_12_code 54 = .ok (.iload_n 2, 1) := by decide +kernel
theorem d_D_arrange_55 : decode prog_5_method_12_code 55 = .ok (.invokevirtual 80, 3) := by decide +kernel
theorem d_D_arrange_58 : decode prog_5_method_12_code 58 = .ok (.invokevirtual 121, 3) := by decide +kernel
theorem d_D_arrange_61 : decode prog_5_method_12_code 61 = .ok (.ifCond .eq 13, 3) := by decide +kernel
theorem d_D_arrange_64 : decode prog_5_method_12_code 64 = .ok (.aload_n 0, 1) := by decide +kernel
theorem d_D_arrange_65 : decode prog_5_method_12_code 65 = .ok (.getfield 25, 3) := by decide +kernel
theorem d_D_arrange_68 : decode prog_5_method_12_code 68 = .ok (.iload_n 2, 1) := by decide +kernel
theorem d_D_arrange_69 : decode prog_5_method_12_code 69 = .ok (.dup2, 1) := by decide +kernel
theorem d_D_arrange_70 : decode prog_5_method_12_code 70 = .ok (.iaload, 1) := by decide +kernel
theorem d_D_arrange_71 : decode prog_5_method_12_code 71 = .ok (.iconst 1, 1) := by decide +kernel
theorem d_D_arrange_72 : decode prog_5_method_12_code 72 = .ok (.iadd, 1) := by decide +kernel
theorem d_D_arrange_73 : decode prog_5_method_12_code 73 = .ok (.iastore, 1) := by decide +kernel
theorem d_D_arrange_74 : decode prog_5_method_12_code 74 = .ok (.iinc 3 1, 3) := by decide +kernel
theorem d_D_arrange_77 : decode prog_5_method_12_code 77 = .ok (.goto (-40), 3) := by decide +kernel
theorem d_D_arrange_80 : decode prog_5_method_12_code 80 = .ok (.iinc 2 1, 3) := by decide +kernel
theorem d_D_arrange_83 : decode prog_5_method_12_code 83 = .ok (.goto (-60), 3) := by decide +kernel
theorem d_D_arrange_86 : decode prog_5_method_12_code 86 = .ok (.aload_n 0, 1) := by decide +kernel
theorem d_D_arrange_87 : decode prog_5_method_12_code 87 = .ok (.getfield 20, 3) := by decide +kernel
theorem d_D_arrange_90 : decode prog_5_method_12_code 90 = .ok (.iconst 0, 1) := by decide +kernel
theorem d_D_arrange_91 : decode prog_5_method_12_code 91 = .ok (.iconst 0, 1) := by decide +kernel
theorem d_D_arrange_92 : decode prog_5_method_12_code 92 = .ok (.iastore, 1) := by decide +kernel
theorem d_D_arrange_93 : decode prog_5_method_12_code 93 = .ok (.iconst 1, 1) := by decide +kernel
theorem d_D_arrange_94 : decode prog_5_method_12_code 94 = .ok (.istore_n 2, 1) := by decide +kernel
theorem d_D_arrange_95 : decode prog_5_method_12_code 95 = .ok (.iload_n 2, 1) := by decide +kernel
theorem d_D_arrange_96 : decode prog_5_method_12_code 96 = .ok (.iconst 1, 1) := by decide +kernel
theorem d_D_arrange_97 : decode prog_5_method_12_code 97 = .ok (.iload_n 1, 1) := by decide +kernel
theorem d_D_arrange_98 : decode prog_5_method_12_code 98 = .ok (.ishl, 1) := by decide +kernel
theorem d_D_arrange_99 : decode prog_5_method_12_code 99 = .ok (.if_icmp .ge 42, 3) := by decide +kernel
theorem d_D_arrange_102 : decode prog_5_method_12_code 102 = .ok (.iload_n 2, 1) := by decide +kernel
theorem d_D_arrange_103 : decode prog_5_method_12_code 103 = .ok (.invokestatic 124, 3) := by decide +kernel
theorem d_D_arrange_106 : decode prog_5_method_12_code 106 = .ok (.istore_n 3, 1) := by decide +kernel
theorem d_D_arrange_107 : decode prog_5_method_12_code 107 = .ok (.aload_n 0, 1) := by decide +kernel
theorem d_D_arrange_108 : decode prog_5_method_12_code 108 = .ok (.getfield 20, 3) := by decide +kernel
theorem d_D_arrange_111 : decode prog_5_method_12_code 111 = .ok (.iload_n 2, 1) := by decide +kernel
theorem d_D_arrange_112 : decode prog_5_method_12_code 112 = .ok (.aload_n 0, 1) := by decide +kernel
theorem d_D_arrange_113 : decode prog_5_method_12_code 113 = .ok (.getfield 20, 3) := by decide +kernel
theorem d_D_arrange_116 : decode prog_5_method_12_code 116 = .ok (.iload_n 2, 1) := by decide +kernel
theorem d_D_arrange_117 : decode prog_5_method_12_code 117 = .ok (.iload_n 2, 1) := by decide +kernel
theorem d_D_arrange_118 : decode prog_5_method_12_code 118 = .ok (.iconst 1, 1) := by decide +kernel
theorem d_D_arrange_119 : decode prog_5_method_12_code 119 = .ok (.isub, 1) := by decide +kernel
theorem d_D_arrange_120 : decode prog_5_method_12_code 120 = .ok (.iand, 1) := by decide +kernel
theorem d_D_arrange_121 : decode prog_5_method_12_code 121 = .ok (.iaload, 1) := by decide +kernel
theorem d_D_arrange_122 : decode prog_5_method_12_code 122 = .ok (.iconst 1, 1) := by decide +kernel
theorem d_D_arrange_123 : decode prog_5_method_12_code 123 = .ok (.bipush 8, 2) := by decide +kernel
theorem d_D_arrange_125 : decode prog_5_method_12_code 125 = .ok (.aload_n 0, 1) := by decide +kernel
theorem d_D_arrange_126 : decode prog_5_method_12_code 126 = .ok (.getfield 25, 3) := by decide +kernel
theorem d_D_arrange_129 : decode prog_5_method_12_code 129 = .ok (.iload_n 3, 1) := by decide +kernel
theorem d_D_arrange_130 : decode prog_5_method_12_code 130 = .ok (.iaload, 1) := by decide +kernel
theorem d_D_arrange_131 : decode prog_5_method_12_code 131 = .ok (.isub, 1) := by decide +kernel
theorem d_D_arrange_132 : decode prog_5_method_12_code 132 = .ok (.ishl, 1) := by decide +kernel
theorem d_D_arrange_133 : decode prog_5_method_12_code 133 = .ok (.ior, 1) := by decide +kernel
theorem d_D_arrange_134 : decode prog_5_method_12_code 134 = .ok (.iastore, 1) := by decide +kernel
theorem d_D_arrange_135 : decode prog_5_method_12_code 135 = .ok (.iinc 2 1, 3) := by decide +kernel
theorem d_D_arrange_138 : decode prog_5_method_12_code 138 = .ok (.goto (-43), 3) := by decide +kernel
theorem d_D_arrange_141 : decode prog_5_method_12_code 141 = .ok (.aload_n 0, 1) := by decide +kernel
theorem d_D_arrange_142 : decode prog_5_method_12_code 142 = .ok (.iconst 1, 1) := by decide +kernel
theorem d_D_arrange_143 : decode prog_5_method_12_code 143 = .ok (.putfield 40, 3) := by decide +kernel
theorem d_D_arrange_146 : decode prog_5_method_12_code 146 = .ok (.return_, 1) := by decide +kernel
theorem d_D_firstWithin_0 : decode prog_5_method_7_code 0 = .ok (.iconst 0, 1) := by decide +kernel
theorem d_D_firstWithin_1 : decode prog_5_method_7_code 1 = .ok (.istore_n 3, 1) := by decide +kernel
theorem d_D_firstWithin_2 : decode prog_5_method_7_code 2 = .ok (.iconst 0, 1) := by decide +kernel
theorem d_D_firstWithin_3 : decode prog_5_method_7_code 3 = .ok (.istore 4, 2) := by decide +kernel
theorem d_D_firstWithin_5 : decode prog_5_method_7_code 5 = .ok (.iload 4, 2) := by decide +kernel
theorem d_D_firstWithin_7 : decode prog_5_method_7_code 7 = .ok (.aload_n 0, 1) := by decide +kernel
theorem d_D_firstWithin_8 : decode prog_5_method_7_code 8 = .ok (.getfield 32, 3) := by decide +kernel
theorem d_D_firstWithin_11 : decode prog_5_method_7_code 11 = .ok (.getfield 54, 3) := by decide +kernel
theorem d_D_firstWithin_14 : decode prog_5_method_7_code 14 = .ok (.aload_n 0, 1) := by decide +kernel
theorem d_D_firstWithin_15 : decode prog_5_method_7_code 15 = .ok (.getfield 28, 3) := by decide +kernel
theorem d_D_firstWithin_18 : decode prog_5_method_7_code 18 = .ok (.iaload, 1) := by decide +kernel
theorem d_D_firstWithin_19 : decode prog_5_method_7_code 19 = .ok (.if_icmp .ge 56, 3) := by decide +kernel
theorem d_D_firstWithin_22 : decode prog_5_method_7_code 22 = .ok (.iload_n 2, 1) := by decide +kernel
theorem d_D_firstWithin_23 : decode prog_5_method_7_code 23 = .ok (.iload 4, 2) := by decide +kernel
theorem d_D_firstWithin_25 : decode prog_5_method_7_code 25 = .ok (.iushr, 1) := by decide +kernel
theorem d_D_firstWithin_26 : decode prog_5_method_7_code 26 = .ok (.iconst 1, 1) := by decide +kernel
theorem d_D_firstWithin_27 : decode prog_5_method_7_code 27 = .ok (.iand, 1) := by decide +kernel
theorem d_D_firstWithin_28 : decode prog_5_method_7_code 28 = .ok (.ifCond .eq 41, 3) := by decide +kernel
theorem d_D_firstWithin_31 : decode prog_5_method_7_code 31 = .ok (.aload_n 0, 1) := by decide +kernel
theorem d_D_firstWithin_32 : decode prog_5_method_7_code 32 = .ok (.getfield 16, 3) := by decide +kernel
theorem d_D_firstWithin_35 : decode prog_5_method_7_code 35 = .ok (.iload_n 1, 1) := by decide +kernel
theorem d_D_firstWithin_36 : decode prog_5_method_7_code 36 = .ok (.iload_n 2, 1) := by decide +kernel
theorem d_D_firstWithin_37 : decode prog_5_method_7_code 37 = .ok (.iconst 1, 1) := by decide +kernel
theorem d_D_firstWithin_38 : decode prog_5_method_7_code 38 = .ok (.iload 4, 2) := by decide +kernel
theorem d_D_firstWithin_40 : decode prog_5_method_7_code 40 = .ok (.ishl, 1) := by decide +kernel
theorem d_D_firstWithin_41 : decode prog_5_method_7_code 41 = .ok (.ixor, 1) := by decide +kernel
theorem d_D_firstWithin_42 : decode prog_5_method_7_code 42 = .ok (.iadd, 1) := by decide +kernel
theorem d_D_firstWithin_43 : decode prog_5_method_7_code 43 = .ok (.iaload, 1) := by decide +kernel
theorem d_D_firstWithin_44 : decode prog_5_method_7_code 44 = .ok (.sipush 255, 3) := by decide +kernel
theorem d_D_firstWithin_47 : decode prog_5_method_7_code 47 = .ok (.iand, 1) := by decide +kernel
theorem d_D_firstWithin_48 : decode prog_5_method_7_code 48 = .ok (.istore 5, 2) := by decide +kernel
theorem d_D_firstWithin_50 : decode prog_5_method_7_code 50 = .ok (.aload_n 0, 1) := by decide +kernel
theorem d_D_firstWithin_51 : decode prog_5_method_7_code 51 = .ok (.getfield 20, 3) := by decide +kernel
theorem d_D_firstWithin_54 : decode prog_5_method_7_code 54 = .ok (.iload 5, 2) := by decide +kernel
theorem d_D_firstWithin_56 : decode prog_5_method_7_code 56 = .ok (.iaload, 1) := by decide +kernel
theorem d_D_firstWithin_57 : decode prog_5_method_7_code 57 = .ok (.aload_n 0, 1) := by decide +kernel
theorem d_D_firstWithin_58 : decode prog_5_method_7_code 58 = .ok (.getfield 20, 3) := by decide +kernel
theorem d_D_firstWithin_61 : decode prog_5_method_7_code 61 = .ok (.iload_n 3, 1) := by decide +kernel
theorem d_D_firstWithin_62 : decode prog_5_method_7_code 62 = .ok (.iaload, 1) := by decide +kernel
theorem d_D_firstWithin_63 : decode prog_5_method_7_code 63 = .ok (.if_icmp .le 6, 3) := by decide +kernel
theorem d_D_firstWithin_66 : decode prog_5_method_7_code 66 = .ok (.iload 5, 2) := by decide +kernel
theorem d_D_firstWithin_68 : decode prog_5_method_7_code 68 = .ok (.istore_n 3, 1) := by decide +kernel
theorem d_D_firstWithin_69 : decode prog_5_method_7_code 69 = .ok (.iinc 4 1, 3) := by decide +kernel
theorem d_D_firstWithin_72 : decode prog_5_method_7_code 72 = .ok (.goto (-67), 3) := by decide +kernel
theorem d_D_firstWithin_75 : decode prog_5_method_7_code 75 = .ok (.iload_n 3, 1) := by decide +kernel
theorem d_D_firstWithin_76 : decode prog_5_method_7_code 76 = .ok (.ireturn, 1) := by decide +kernel
theorem d_D_growsByOne_0 : decode prog_5_method_8_code 0 = .ok (.iconst 0, 1) := by decide +kernel
theorem d_D_growsByOne_1 : decode prog_5_method_8_code 1 = .ok (.istore_n 3, 1) := by decide +kernel
theorem d_D_growsByOne_2 : decode prog_5_method_8_code 2 = .ok (.iload_n 3, 1) := by decide +kernel
theorem d_D_growsByOne_3 : decode prog_5_method_8_code 3 = .ok (.aload_n 0, 1) := by decide +kernel
theorem d_D_growsByOne_4 : decode prog_5_method_8_code 4 = .ok (.getfield 32, 3) := by decide +kernel
theorem d_D_growsByOne_7 : decode prog_5_method_8_code 7 = .ok (.getfield 54, 3) := by decide +kernel
theorem d_D_growsByOne_10 : decode prog_5_method_8_code 10 = .ok (.aload_n 0, 1) := by decide +kernel
theorem d_D_growsByOne_11 : decode prog_5_method_8_code 11 = .ok (.getfield 28, 3) := by decide +kernel
theorem d_D_growsByOne_14 : decode prog_5_method_8_code 14 = .ok (.iaload, 1) := by decide +kernel
theorem d_D_growsByOne_15 : decode prog_5_method_8_code 15 = .ok (.if_icmp .ge 38, 3) := by decide +kernel
theorem d_D_growsByOne_18 : decode prog_5_method_8_code 18 = .ok (.iload_n 2, 1) := by decide +kernel
theorem d_D_growsByOne_19 : decode prog_5_method_8_code 19 = .ok (.iload_n 3, 1) := by decide +kernel
theorem d_D_growsByOne_20 : decode prog_5_method_8_code 20 = .ok (.iushr, 1) := by decide +kernel
theorem d_D_growsByOne_21 : decode prog_5_method_8_code 21 = .ok (.iconst 1, 1) := by decide +kernel
theorem d_D_growsByOne_22 : decode prog_5_method_8_code 22 = .ok (.iand, 1) := by decide +kernel
theorem d_D_growsByOne_23 : decode prog_5_method_8_code 23 = .ok (.ifCond .ne 24, 3) := by decide +kernel
theorem d_D_growsByOne_26 : decode prog_5_method_8_code 26 = .ok (.aload_n 0, 1) := by decide +kernel
theorem d_D_growsByOne_27 : decode prog_5_method_8_code 27 = .ok (.getfield 16, 3) := by decide +kernel
theorem d_D_growsByOne_30 : decode prog_5_method_8_code 30 = .ok (.iload_n 1, 1) := by decide +kernel
theorem d_D_growsByOne_31 : decode prog_5_method_8_code 31 = .ok (.iload_n 2, 1) := by decide +kernel
theorem d_D_growsByOne_32 : decode prog_5_method_8_code 32 = .ok (.iconst 1, 1) := by decide +kernel
theorem d_D_growsByOne_33 : decode prog_5_method_8_code 33 = .ok (.iload_n 3, 1) := by decide +kernel
theorem d_D_growsByOne_34 : decode prog_5_method_8_code 34 = .ok (.ishl, 1) := by decide +kernel
theorem d_D_growsByOne_35 : decode prog_5_method_8_code 35 = .ok (.ior, 1) := by decide +kernel
theorem d_D_growsByOne_36 : decode prog_5_method_8_code 36 = .ok (.iadd, 1) := by decide +kernel
theorem d_D_growsByOne_37 : decode prog_5_method_8_code 37 = .ok (.iaload, 1) := by decide +kernel
theorem d_D_growsByOne_38 : decode prog_5_method_8_code 38 = .ok (.sipush 256, 3) := by decide +kernel
theorem d_D_growsByOne_41 : decode prog_5_method_8_code 41 = .ok (.iand, 1) := by decide +kernel
theorem d_D_growsByOne_42 : decode prog_5_method_8_code 42 = .ok (.ifCond .eq 5, 3) := by decide +kernel
theorem d_D_growsByOne_45 : decode prog_5_method_8_code 45 = .ok (.iconst 1, 1) := by decide +kernel
theorem d_D_growsByOne_46 : decode prog_5_method_8_code 46 = .ok (.ireturn, 1) := by decide +kernel
theorem d_D_growsByOne_47 : decode prog_5_method_8_code 47 = .ok (.iinc 3 1, 3) := by decide +kernel
theorem d_D_growsByOne_50 : decode prog_5_method_8_code 50 = .ok (.goto (-48), 3) := by decide +kernel
theorem d_D_growsByOne_53 : decode prog_5_method_8_code 53 = .ok (.iconst 0, 1) := by decide +kernel
theorem d_D_growsByOne_54 : decode prog_5_method_8_code 54 = .ok (.ireturn, 1) := by decide +kernel
theorem d_D_keepsPlaces_0 : decode prog_5_method_10_code 0 = .ok (.iconst 0, 1) := by decide +kernel
theorem d_D_keepsPlaces_1 : decode prog_5_method_10_code 1 = .ok (.istore_n 3, 1) := by decide +kernel
theorem d_D_keepsPlaces_2 : decode prog_5_method_10_code 2 = .ok (.iload_n 3, 1) := by decide +kernel
theorem d_D_keepsPlaces_3 : decode prog_5_method_10_code 3 = .ok (.iconst 4, 1) := by decide +kernel
theorem d_D_keepsPlaces_4 : decode prog_5_method_10_code 4 = .ok (.if_icmp .ge 61, 3) := by decide +kernel
theorem d_D_keepsPlaces_7 : decode prog_5_method_10_code 7 = .ok (.iload_n 1, 1) := by decide +kernel
theorem d_D_keepsPlaces_8 : decode prog_5_method_10_code 8 = .ok (.aload_n 0, 1) := by decide +kernel
theorem d_D_keepsPlaces_9 : decode prog_5_method_10_code 9 = .ok (.getfield 36, 3) := by decide +kernel
theorem d_D_keepsPlaces_12 : decode prog_5_method_10_code 12 = .ok (.getfield 104, 3) := by decide +kernel
theorem d_D_keepsPlaces_15 : decode prog_5_method_10_code 15 = .ok (.iload_n 3, 1) := by decide +kernel
theorem d_D_keepsPlaces_16 : decode prog_5_method_10_code 16 = .ok (.iaload, 1) := by decide +kernel
theorem d_D_keepsPlaces_17 : decode prog_5_method_10_code 17 = .ok (.iconst (-1), 1) := by decide +kernel
theorem d_D_keepsPlaces_18 : decode prog_5_method_10_code 18 = .ok (.ixor, 1) := by decide +kernel
theorem d_D_keepsPlaces_19 : decode prog_5_method_10_code 19 = .ok (.iand, 1) := by decide +kernel
theorem d_D_keepsPlaces_20 : decode prog_5_method_10_code 20 = .ok (.invokestatic 75, 3) := by decide +kernel
theorem d_D_keepsPlaces_23 : decode prog_5_method_10_code 23 = .ok (.istore 4, 2) := by decide +kernel
theorem d_D_keepsPlaces_25 : decode prog_5_method_10_code 25 = .ok (.aload_n 0, 1) := by decide +kernel
theorem d_D_keepsPlaces_26 : decode prog_5_method_10_code 26 = .ok (.getfield 10, 3) := by decide +kernel
theorem d_D_keepsPlaces_29 : decode prog_5_method_10_code 29 = .ok (.getfield 107, 3) := by decide +kernel
theorem d_D_keepsPlaces_32 : decode prog_5_method_10_code 32 = .ok (.iload_n 3, 1) := by decide +kernel
theorem d_D_keepsPlaces_33 : decode prog_5_method_10_code 33 = .ok (.iaload, 1) := by decide +kernel
theorem d_D_keepsPlaces_34 : decode prog_5_method_10_code 34 = .ok (.ifCond .le 25, 3) := by decide +kernel
theorem d_D_keepsPlaces_37 : decode prog_5_method_10_code 37 = .ok (.iload 4, 2) := by decide +kernel
theorem d_D_keepsPlaces_39 : decode prog_5_method_10_code 39 = .ok (.iconst 0, 1) := by decide +kernel
theorem d_D_keepsPlaces_40 : decode prog_5_method_10_code 40 = .ok (.iload_n 2, 1) := by decide +kernel
theorem d_D_keepsPlaces_41 : decode prog_5_method_10_code 41 = .ok (.aload_n 0, 1) := by decide +kernel
theorem d_D_keepsPlaces_42 : decode prog_5_method_10_code 42 = .ok (.getfield 10, 3) := by decide +kernel
theorem d_D_keepsPlaces_45 : decode prog_5_method_10_code 45 = .ok (.getfield 107, 3) := by decide +kernel
theorem d_D_keepsPlaces_48 : decode prog_5_method_10_code 48 = .ok (.iload_n 3, 1) := by decide +kernel
theorem d_D_keepsPlaces_49 : decode prog_5_method_10_code 49 = .ok (.iaload, 1) := by decide +kernel
theorem d_D_keepsPlaces_50 : decode prog_5_method_10_code 50 = .ok (.isub, 1) := by decide +kernel
theorem d_D_keepsPlaces_51 : decode prog_5_method_10_code 51 = .ok (.invokestatic 110, 3) := by decide +kernel
theorem d_D_keepsPlaces_54 : decode prog_5_method_10_code 54 = .ok (.if_icmp .le 5, 3) := by decide +kernel
theorem d_D_keepsPlaces_57 : decode prog_5_method_10_code 57 = .ok (.iconst 0, 1) := by decide +kernel
theorem d_D_keepsPlaces_58 : decode prog_5_method_10_code 58 = .ok (.ireturn, 1) := by decide +kernel
theorem d_D_keepsPlaces_59 : decode prog_5_method_10_code 59 = .ok (.iinc 3 1, 3) := by decide +kernel
theorem d_D_keepsPlaces_62 : decode prog_5_method_10_code 62 = .ok (.goto (-60), 3) := by decide +kernel
theorem d_D_keepsPlaces_65 : decode prog_5_method_10_code 65 = .ok (.iconst 1, 1) := by decide +kernel
theorem d_D_keepsPlaces_66 : decode prog_5_method_10_code 66 = .ok (.ireturn, 1) := by decide +kernel
theorem d_D_isAllowed_0 : decode prog_5_method_9_code 0 = .ok (.iload_n 1, 1) := by decide +kernel
theorem d_D_isAllowed_1 : decode prog_5_method_9_code 1 = .ok (.ifCond .ne 5, 3) := by decide +kernel
theorem d_D_isAllowed_4 : decode prog_5_method_9_code 4 = .ok (.iconst 1, 1) := by decide +kernel
theorem d_D_isAllowed_5 : decode prog_5_method_9_code 5 = .ok (.ireturn, 1) := by decide +kernel
theorem d_D_isAllowed_6 : decode prog_5_method_9_code 6 = .ok (.aload_n 0, 1) := by decide +kernel
theorem d_D_isAllowed_7 : decode prog_5_method_9_code 7 = .ok (.getfield 10, 3) := by decide +kernel
theorem d_D_isAllowed_10 : decode prog_5_method_9_code 10 = .ok (.getfield 72, 3) := by decide +kernel
theorem d_D_isAllowed_13 : decode prog_5_method_9_code 13 = .ok (.ifCond .eq 11, 3) := by decide +kernel
theorem d_D_isAllowed_16 : decode prog_5_method_9_code 16 = .ok (.iload_n 1, 1) := by decide +kernel
theorem d_D_isAllowed_17 : decode prog_5_method_9_code 17 = .ok (.invokestatic 75, 3) := by decide +kernel
theorem d_D_isAllowed_20 : decode prog_5_method_9_code 20 = .ok (.iload_n 2, 1) := by decide +kernel
theorem d_D_isAllowed_21 : decode prog_5_method_9_code 21 = .ok (.if_icmp .le 5, 3) := by decide +kernel
theorem d_D_isAllowed_24 : decode prog_5_method_9_code 24 = .ok (.iconst 0, 1) := by decide +kernel
theorem d_D_isAllowed_25 : decode prog_5_method_9_code 25 = .ok (.ireturn, 1) := by decide +kernel
theorem d_D_isAllowed_26 : decode prog_5_method_9_code 26 = .ok (.iconst 0, 1) := by decide +kernel
theorem d_D_isAllowed_27 : decode prog_5_method_9_code 27 = .ok (.istore_n 3, 1) := by decide +kernel
theorem d_D_isAllowed_28 : decode prog_5_method_9_code 28 = .ok (.iconst 0, 1) := by decide +kernel
theorem d_D_isAllowed_29 : decode prog_5_method_9_code 29 = .ok (.istore 4, 2) := by decide +kernel
theorem d_D_isAllowed_31 : decode prog_5_method_9_code 31 = .ok (.iconst 0, 1) := by decide +kernel
theorem d_D_isAllowed_32 : decode prog_5_method_9_code 32 = .ok (.istore 5, 2) := by decide +kernel
theorem d_D_isAllowed_34 : decode prog_5_method_9_code 34 = .ok (.iload 5, 2) := by decide +kernel
theorem d_D_isAllowed_36 : decode prog_5_method_9_code 36 = .ok (.aload_n 0, 1) := by decide +kernel
theorem d_D_isAllowed_37 : decode prog_5_method_9_code 37 = .ok (.getfield 32, 3) := by decide +kernel
theorem d_D_isAllowed_40 : decode prog_5_method_9_code 40 = .ok (.getfield 54, 3) := by decide +kernel
theorem d_D_isAllowed_43 : decode prog_5_method_9_code 43 = .ok (.aload_n 0, 1) := by decide +kernel
theorem d_D_isAllowed_44 : decode prog_5_method_9_code 44 = .ok (.getfield 28, 3) := by decide +kernel
theorem d_D_isAllowed_47 : decode prog_5_method_9_code 47 = .ok (.iaload, 1) := by decide +kernel
theorem d_D_isAllowed_48 : decode prog_5_method_9_code 48 = .ok (.if_icmp .ge 69, 3) := by decide +kernel
theorem d_D_isAllowed_51 : decode prog_5_method_9_code 51 = .ok (.iload_n 1, 1) := by decide +kernel
theorem d_D_isAllowed_52 : decode prog_5_method_9_code 52 = .ok (.iload 5, 2) := by decide +kernel
theorem d_D_isAllowed_54 : decode prog_5_method_9_code 54 = .ok (.iushr, 1) := by decide +kernel
theorem d_D_isAllowed_55 : decode prog_5_method_9_code 55 = .ok (.iconst 1, 1) := by decide +kernel
theorem d_D_isAllowed_56 : decode prog_5_method_9_code 56 = .ok (.iand, 1) := by decide +kernel
theorem d_D_isAllowed_57 : decode prog_5_method_9_code 57 = .ok (.ifCond .eq 54, 3) := by decide +kernel
theorem d_D_isAllowed_60 : decode prog_5_method_9_code 60 = .ok (.aload_n 0, 1) := by decide +kernel
theorem d_D_isAllowed_61 : decode prog_5_method_9_code 61 = .ok (.iload 5, 2) := by decide +kernel
theorem d_D_isAllowed_63 : decode prog_5_method_9_code 63 = .ok (.invokevirtual 80, 3) := by decide +kernel
theorem d_D_isAllowed_66 : decode prog_5_method_9_code 66 = .ok (.istore 6, 2) := by decide +kernel
theorem d_D_isAllowed_68 : decode prog_5_method_9_code 68 = .ok (.iconst 1, 1) := by decide +kernel
theorem d_D_isAllowed_69 : decode prog_5_method_9_code 69 = .ok (.aload_n 0, 1) := by decide +kernel
theorem d_D_isAllowed_70 : decode prog_5_method_9_code 70 = .ok (.getfield 32, 3) := by decide +kernel
theorem d_D_isAllowed_73 : decode prog_5_method_9_code 73 = .ok (.getfield 83, 3) := by decide +kernel
theorem d_D_isAllowed_76 : decode prog_5_method_9_code 76 = .ok (.iload 6, 2) := by decide +kernel
theorem d_D_isAllowed_78 : decode prog_5_method_9_code 78 = .ok (.iaload, 1) := by decide +kernel
theorem d_D_isAllowed_79 : decode prog_5_method_9_code 79 = .ok (.ishl, 1) := by decide +kernel
theorem d_D_isAllowed_80 : decode prog_5_method_9_code 80 = .ok (.istore 7, 2) := by decide +kernel
theorem d_D_isAllowed_82 : decode prog_5_method_9_code 82 = .ok (.iload_n 3, 1) := by decide +kernel
theorem d_D_isAllowed_83 : decode prog_5_method_9_code 83 = .ok (.iload 7, 2) := by decide +kernel
theorem d_D_isAllowed_85 : decode prog_5_method_9_code 85 = .ok (.iand, 1) := by decide +kernel
theorem d_D_isAllowed_86 : decode prog_5_method_9_code 86 = .ok (.ifCond .eq 5, 3) := by decide +kernel
theorem d_D_isAllowed_89 : decode prog_5_method_9_code 89 = .ok (.iconst 0, 1) := by decide +kernel
theorem d_D_isAllowed_90 : decode prog_5_method_9_code 90 = .ok (.ireturn, 1) := by decide +kernel
theorem d_D_isAllowed_91 : decode prog_5_method_9_code 91 = .ok (.iload_n 3, 1) := by decide +kernel
theorem d_D_isAllowed_92 : decode prog_5_method_9_code 92 = .ok (.iload 7, 2) := by decide +kernel
theorem d_D_isAllowed_94 : decode prog_5_method_9_code 94 = .ok (.ior, 1) := by decide +kernel
theorem d_D_isAllowed_95 : decode prog_5_method_9_code 95 = .ok (.istore_n 3, 1) := by decide +kernel
theorem d_D_isAllowed_96 : decode prog_5_method_9_code 96 = .ok (.iload 4, 2) := by decide +kernel
theorem d_D_isAllowed_98 : decode prog_5_method_9_code 98 = .ok (.aload_n 0, 1) := by decide +kernel
theorem d_D_isAllowed_99 : decode prog_5_method_9_code 99 = .ok (.getfield 32, 3) := by decide +kernel
theorem d_D_isAllowed_102 : decode prog_5_method_9_code 102 = .ok (.getfield 86, 3) := by decide +kernel
theorem d_D_isAllowed_105 : decode prog_5_method_9_code 105 = .ok (.iload 6, 2) := by decide +kernel
theorem d_D_isAllowed_107 : decode prog_5_method_9_code 107 = .ok (.iaload, 1) := by decide +kernel
theorem d_D_isAllowed_108 : decode prog_5_method_9_code 108 = .ok (.iadd, 1) := by decide +kernel
theorem d_D_isAllowed_109 : decode prog_5_method_9_code 109 = .ok (.istore 4, 2) := by decide +kernel
theorem d_D_isAllowed_111 : decode prog_5_method_9_code 111 = .ok (.iinc 5 1, 3) := by decide +kernel
theorem d_D_isAllowed_114 : decode prog_5_method_9_code 114 = .ok (.goto (-80), 3) := by decide +kernel
theorem d_D_isAllowed_117 : decode prog_5_method_9_code 117 = .ok (.iload 4, 2) := by decide +kernel
theorem d_D_isAllowed_119 : decode prog_5_method_9_code 119 = .ok (.aload_n 0, 1) := by decide +kernel
theorem d_D_isAllowed_120 : decode prog_5_method_9_code 120 = .ok (.getfield 10, 3) := by decide +kernel
theorem d_D_isAllowed_123 : decode prog_5_method_9_code 123 = .ok (.getfield 89, 3) := by decide +kernel
theorem d_D_isAllowed_126 : decode prog_5_method_9_code 126 = .ok (.if_icmp .gt 38, 3) := by decide +kernel
theorem d_D_isAllowed_129 : decode prog_5_method_9_code 129 = .ok (.aload_n 0, 1) := by decide +kernel
theorem d_D_isAllowed_130 : decode prog_5_method_9_code 130 = .ok (.iload_n 3, 1) := by decide +kernel
theorem d_D_isAllowed_131 : decode prog_5_method_9_code 131 = .ok (.iload_n 2, 1) := by decide +kernel
theorem d_D_isAllowed_132 : decode prog_5_method_9_code 132 = .ok (.invokevirtual 92, 3) := by decide +kernel
theorem d_D_isAllowed_135 : decode prog_5_method_9_code 135 = .ok (.ifCond .eq 29, 3) := by decide +kernel
theorem d_D_isAllowed_138 : decode prog_5_method_9_code 138 = .ok (.aload_n 0, 1) := by decide +kernel
theorem d_D_isAllowed_139 : decode prog_5_method_9_code 139 = .ok (.getfield 10, 3) := by decide +kernel
theorem d_D_isAllowed_142 : decode prog_5_method_9_code 142 = .ok (.iload_n 3, 1) := by decide +kernel
theorem d_D_isAllowed_143 : decode prog_5_method_9_code 143 = .ok (.invokevirtual 95, 3) := by decide +kernel
theorem d_D_isAllowed_146 : decode prog_5_method_9_code 146 = .ok (.ifCond .eq 18, 3) := by decide +kernel
theorem d_D_isAllowed_149 : decode prog_5_method_9_code 149 = .ok (.aload_n 0, 1) := by decide +kernel
theorem d_D_isAllowed_150 : decode prog_5_method_9_code 150 = .ok (.getfield 10, 3) := by decide +kernel
theorem d_D_isAllowed_153 : decode prog_5_method_9_code 153 = .ok (.iload_n 3, 1) := by decide +kernel
theorem d_D_isAllowed_154 : decode prog_5_method_9_code 154 = .ok (.invokevirtual 99, 3) := by decide +kernel
theorem d_D_isAllowed_157 : decode prog_5_method_9_code 157 = .ok (.ifCond .eq 7, 3) := by decide +kernel
theorem d_D_isAllowed_160 : decode prog_5_method_9_code 160 = .ok (.iconst 1, 1) := by decide +kernel
theorem d_D_isAllowed_161 : decode prog_5_method_9_code 161 = .ok (.goto 4, 3) := by decide +kernel
theorem d_D_isAllowed_164 : decode prog_5_method_9_code 164 = .ok (.iconst 0, 1) := by decide +kernel
theorem d_D_isAllowed_165 : decode prog_5_method_9_code 165 = .ok (.ireturn, 1) := by decide +kernel
theorem d_D_ready_0 : decode prog_5_method_5_code 0 = .ok (.aload_n 0, 1) := by decide +kernel
theorem d_D_ready_1 : decode prog_5_method_5_code 1 = .ok (.getfield 44, 3) := by decide +kernel
theorem d_D_ready_4 : decode prog_5_method_5_code 4 = .ok (.iload_n 1, 1) := by decide +kernel
theorem d_D_ready_5 : decode prog_5_method_5_code 5 = .ok (.iushr, 1) := by decide +kernel
theorem d_D_ready_6 : decode prog_5_method_5_code 6 = .ok (.iconst 1, 1) := by decide +kernel
theorem d_D_ready_7 : decode prog_5_method_5_code 7 = .ok (.iand, 1) := by decide +kernel
theorem d_D_ready_8 : decode prog_5_method_5_code 8 = .ok (.ifCond .eq 4, 3) := by decide +kernel
theorem d_D_ready_11 : decode prog_5_method_5_code 11 = .ok (.return_, 1) := by decide +kernel
theorem d_D_ready_12 : decode prog_5_method_5_code 12 = .ok (.aload_n 0, 1) := by decide +kernel
theorem d_D_ready_13 : decode prog_5_method_5_code 13 = .ok (.invokevirtual 51, 3) := by decide +kernel
theorem d_D_ready_16 : decode prog_5_method_5_code 16 = .ok (.iload_n 1, 1) := by decide +kernel
theorem d_D_ready_17 : decode prog_5_method_5_code 17 = .ok (.sipush 256, 3) := by decide +kernel
theorem d_D_ready_20 : decode prog_5_method_5_code 20 = .ok (.imul, 1) := by decide +kernel
theorem d_D_ready_21 : decode prog_5_method_5_code 21 = .ok (.istore_n 2, 1) := by decide +kernel
theorem d_D_ready_22 : decode prog_5_method_5_code 22 = .ok (.iconst 1, 1) := by decide +kernel
theorem d_D_ready_23 : decode prog_5_method_5_code 23 = .ok (.aload_n 0, 1) := by decide +kernel
theorem d_D_ready_24 : decode prog_5_method_5_code 24 = .ok (.getfield 32, 3) := by decide +kernel
theorem d_D_ready_27 : decode prog_5_method_5_code 27 = .ok (.getfield 54, 3) := by decide +kernel
theorem d_D_ready_30 : decode prog_5_method_5_code 30 = .ok (.aload_n 0, 1) := by decide +kernel
theorem d_D_ready_31 : decode prog_5_method_5_code 31 = .ok (.getfield 28, 3) := by decide +kernel
theorem d_D_ready_34 : decode prog_5_method_5_code 34 = .ok (.iaload, 1) := by decide +kernel
theorem d_D_ready_35 : decode prog_5_method_5_code 35 = .ok (.ishl, 1) := by decide +kernel
theorem d_D_ready_36 : decode prog_5_method_5_code 36 = .ok (.istore_n 3, 1) := by decide +kernel
theorem d_D_ready_37 : decode prog_5_method_5_code 37 = .ok (.aload_n 0, 1) := by decide +kernel
theorem d_D_ready_38 : decode prog_5_method_5_code 38 = .ok (.getfield 10, 3) := by decide +kernel
theorem d_D_ready_41 : decode prog_5_method_5_code 41 = .ok (.iload_n 1, 1) := by decide +kernel
theorem d_D_ready_42 : decode prog_5_method_5_code 42 = .ok (.invokevirtual 57, 3) := by decide +kernel
theorem d_D_ready_45 : decode prog_5_method_5_code 45 = .ok (.istore 4, 2) := by decide +kernel
theorem d_D_ready_47 : decode prog_5_method_5_code 47 = .ok (.iconst 0, 1) := by decide +kernel
theorem d_D_ready_48 : decode prog_5_method_5_code 48 = .ok (.istore 5, 2) := by decide +kernel
theorem d_D_ready_50 : decode prog_5_method_5_code 50 = .ok (.iload 5, 2) := by decide +kernel
theorem d_D_ready_52 : decode prog_5_method_5_code 52 = .ok (.iload_n 3, 1) := by decide +kernel
theorem d_D_ready_53 : decode prog_5_method_5_code 53 = .ok (.if_icmp .ge 41, 3) := by decide +kernel
theorem d_D_ready_56 : decode prog_5_method_5_code 56 = .ok (.aload_n 0, 1) := by decide +kernel
theorem d_D_ready_57 : decode prog_5_method_5_code 57 = .ok (.getfield 16, 3) := by decide +kernel
theorem d_D_ready_60 : decode prog_5_method_5_code 60 = .ok (.iload_n 2, 1) := by decide +kernel
theorem d_D_ready_61 : decode prog_5_method_5_code 61 = .ok (.iload 5, 2) := by decide +kernel
theorem d_D_ready_63 : decode prog_5_method_5_code 63 = .ok (.iadd, 1) := by decide +kernel
theorem d_D_ready_64 : decode prog_5_method_5_code 64 = .ok (.aload_n 0, 1) := by decide +kernel
theorem d_D_ready_65 : decode prog_5_method_5_code 65 = .ok (.iload 5, 2) := by decide +kernel
theorem d_D_ready_67 : decode prog_5_method_5_code 67 = .ok (.iload 4, 2) := by decide +kernel
theorem d_D_ready_69 : decode prog_5_method_5_code 69 = .ok (.invokevirtual 61, 3) := by decide +kernel
theorem d_D_ready_72 : decode prog_5_method_5_code 72 = .ok (.ifCond .eq 8, 3) := by decide +kernel
theorem d_D_ready_75 : decode prog_5_method_5_code 75 = .ok (.iload 5, 2) := by decide +kernel
theorem d_D_ready_77 : decode prog_5_method_5_code 77 = .ok (.goto 10, 3) := by decide +kernel
theorem d_D_ready_80 : decode prog_5_method_5_code 80 = .ok (.aload_n 0, 1) := by decide +kernel
theorem d_D_ready_81 : decode prog_5_method_5_code 81 = .ok (.iload_n 2, 1) := by decide +kernel
theorem d_D_ready_82 : decode prog_5_method_5_code 82 = .ok (.iload 5, 2) := by decide +kernel
theorem d_D_ready_84 : decode prog_5_method_5_code 84 = .ok (.invokevirtual 65, 3) := by decide +kernel
theorem d_D_ready_87 : decode prog_5_method_5_code 87 = .ok (.iastore, 1) := by decide +kernel
theorem d_D_ready_88 : decode prog_5_method_5_code 88 = .ok (.iinc 5 1, 3) := by decide +kernel
theorem d_D_ready_91 : decode prog_5_method_5_code 91 = .ok (.goto (-41), 3) := by decide +kernel
theorem d_D_ready_94 : decode prog_5_method_5_code 94 = .ok (.iload_n 3, 1) := by decide +kernel
theorem d_D_ready_95 : decode prog_5_method_5_code 95 = .ok (.iconst 1, 1) := by decide +kernel
theorem d_D_ready_96 : decode prog_5_method_5_code 96 = .ok (.isub, 1) := by decide +kernel
theorem d_D_ready_97 : decode prog_5_method_5_code 97 = .ok (.istore 5, 2) := by decide +kernel
theorem d_D_ready_99 : decode prog_5_method_5_code 99 = .ok (.iload 5, 2) := by decide +kernel
theorem d_D_ready_101 : decode prog_5_method_5_code 101 = .ok (.ifCond .lt 52, 3) := by decide +kernel
theorem d_D_ready_104 : decode prog_5_method_5_code 104 = .ok (.aload_n 0, 1) := by decide +kernel
theorem d_D_ready_105 : decode prog_5_method_5_code 105 = .ok (.getfield 16, 3) := by decide +kernel
theorem d_D_ready_108 : decode prog_5_method_5_code 108 = .ok (.iload_n 2, 1) := by decide +kernel
theorem d_D_ready_109 : decode prog_5_method_5_code 109 = .ok (.iload 5, 2) := by decide +kernel
theorem d_D_ready_111 : decode prog_5_method_5_code 111 = .ok (.iadd, 1) := by decide +kernel
theorem d_D_ready_112 : decode prog_5_method_5_code 112 = .ok (.iaload, 1) := by decide +kernel
theorem d_D_ready_113 : decode prog_5_method_5_code 113 = .ok (.sipush 255, 3) := by decide +kernel
theorem d_D_ready_116 : decode prog_5_method_5_code 116 = .ok (.iand, 1) := by decide +kernel
theorem d_D_ready_117 : decode prog_5_method_5_code 117 = .ok (.iload 5, 2) := by decide +kernel
theorem d_D_ready_119 : decode prog_5_method_5_code 119 = .ok (.if_icmp .eq 13, 3) := by decide +kernel
theorem d_D_ready_122 : decode prog_5_method_5_code 122 = .ok (.aload_n 0, 1) := by decide +kernel
theorem d_D_ready_123 : decode prog_5_method_5_code 123 = .ok (.iload_n 2, 1) := by decide +kernel
theorem d_D_ready_124 : decode prog_5_method_5_code 124 = .ok (.iload 5, 2) := by decide +kernel
theorem d_D_ready_126 : decode prog_5_method_5_code 126 = .ok (.invokevirtual 69, 3) := by decide +kernel
theorem d_D_ready_129 : decode prog_5_method_5_code 129 = .ok (.ifCond .eq 18, 3) := by decide +kernel
theorem d_D_ready_132 : decode prog_5_method_5_code 132 = .ok (.aload_n 0, 1) := by decide +kernel
theorem d_D_ready_133 : decode prog_5_method_5_code 133 = .ok (.getfield 16, 3) := by decide +kernel
theorem d_D_ready_136 : decode prog_5_method_5_code 136 = .ok (.iload_n 2, 1) := by decide +kernel
theorem d_D_ready_137 : decode prog_5_method_5_code 137 = .ok (.iload 5, 2) := by decide +kernel
theorem d_D_ready_139 : decode prog_5_method_5_code 139 = .ok (.iadd, 1) := by decide +kernel
theorem d_D_ready_140 : decode prog_5_method_5_code 140 = .ok (.dup2, 1) := by decide +kernel
theorem d_D_ready_141 : decode prog_5_method_5_code 141 = .ok (.iaload, 1) := by decide +kernel
theorem d_D_ready_142 : decode prog_5_method_5_code 142 = .ok (.sipush 256, 3) := by decide +kernel
theorem d_D_ready_145 : decode prog_5_method_5_code 145 = .ok (.ior, 1) := by decide +kernel
theorem d_D_ready_146 : decode prog_5_method_5_code 146 = .ok (.iastore, 1) := by decide +kernel
theorem d_D_ready_147 : decode prog_5_method_5_code 147 = .ok (.iinc 5 (-1), 3) := by decide +kernel
theorem d_D_ready_150 : decode prog_5_method_5_code 150 = .ok (.goto (-51), 3) := by decide +kernel
theorem d_D_ready_153 : decode prog_5_method_5_code 153 = .ok (.aload_n 0, 1) := by decide +kernel
theorem d_D_ready_154 : decode prog_5_method_5_code 154 = .ok (.dup, 1) := by decide +kernel
theorem d_D_ready_155 : decode prog_5_method_5_code 155 = .ok (.getfield 44, 3) := by decide +kernel
theorem d_D_ready_158 : decode prog_5_method_5_code 158 = .ok (.iconst 1, 1) := by decide +kernel
theorem d_D_ready_159 : decode prog_5_method_5_code 159 = .ok (.iload_n 1, 1) := by decide +kernel
theorem d_D_ready_160 : decode prog_5_method_5_code 160 = .ok (.ishl, 1) := by decide +kernel
theorem d_D_ready_161 : decode prog_5_method_5_code 161 = .ok (.ior, 1) := by decide +kernel
theorem d_D_ready_162 : decode prog_5_method_5_code 162 = .ok (.putfield 44, 3) := by decide +kernel
theorem d_D_ready_165 : decode prog_5_method_5_code 165 = .ok (.return_, 1) := by decide +kernel
theorem d_D_takes_0 : decode prog_5_method_3_code 0 = .ok (.aload_n 0, 1) := by decide +kernel
theorem d_D_takes_1 : decode prog_5_method_3_code 1 = .ok (.iconst 0, 1) := by decide +kernel
theorem d_D_takes_2 : decode prog_5_method_3_code 2 = .ok (.invokevirtual 47, 3) := by decide +kernel
theorem d_D_takes_5 : decode prog_5_method_3_code 5 = .ok (.aload_n 0, 1) := by decide +kernel
theorem d_D_takes_6 : decode prog_5_method_3_code 6 = .ok (.getfield 16, 3) := by decide +kernel
theorem d_D_takes_9 : decode prog_5_method_3_code 9 = .ok (.iload_n 1, 1) := by decide +kernel
theorem d_D_takes_10 : decode prog_5_method_3_code 10 = .ok (.sipush 255, 3) := by decide +kernel
theorem d_D_takes_13 : decode prog_5_method_3_code 13 = .ok (.iand, 1) := by decide +kernel
theorem d_D_takes_14 : decode prog_5_method_3_code 14 = .ok (.iaload, 1) := by decide +kernel
theorem d_D_takes_15 : decode prog_5_method_3_code 15 = .ok (.sipush 255, 3) := by decide +kernel
theorem d_D_takes_18 : decode prog_5_method_3_code 18 = .ok (.iand, 1) := by decide +kernel
theorem d_D_takes_19 : decode prog_5_method_3_code 19 = .ok (.ireturn, 1) := by decide +kernel
theorem d_D_reason_0 : decode prog_5_method_11_code 0 = .ok (.aload_n 0, 1) := by decide +kernel
theorem d_D_reason_1 : decode prog_5_method_11_code 1 = .ok (.iload_n 1, 1) := by decide +kernel
theorem d_D_reason_2 : decode prog_5_method_11_code 2 = .ok (.invokevirtual 115, 3) := by decide +kernel
theorem d_D_reason_5 : decode prog_5_method_11_code 5 = .ok (.istore_n 3, 1) := by decide +kernel
theorem d_D_reason_6 : decode prog_5_method_11_code 6 = .ok (.iload_n 3, 1) := by decide +kernel
theorem d_D_reason_7 : decode prog_5_method_11_code 7 = .ok (.iload_n 2, 1) := by decide +kernel
theorem d_D_reason_8 : decode prog_5_method_11_code 8 = .ok (.iushr, 1) := by decide +kernel
theorem d_D_reason_9 : decode prog_5_method_11_code 9 = .ok (.iconst 1, 1) := by decide +kernel
theorem d_D_reason_10 : decode prog_5_method_11_code 10 = .ok (.iand, 1) := by decide +kernel
theorem d_D_reason_11 : decode prog_5_method_11_code 11 = .ok (.ifCond .eq 5, 3) := by decide +kernel
theorem d_D_reason_14 : decode prog_5_method_11_code 14 = .ok (.iconst 0, 1) := by decide +kernel
theorem d_D_reason_15 : decode prog_5_method_11_code 15 = .ok (.ireturn, 1) := by decide +kernel
theorem d_D_reason_16 : decode prog_5_method_11_code 16 = .ok (.iconst 0, 1) := by decide +kernel
theorem d_D_reason_17 : decode prog_5_method_11_code 17 = .ok (.istore 4, 2) := by decide +kernel
theorem d_D_reason_19 : decode prog_5_method_11_code 19 = .ok (.aload_n 0, 1) := by decide +kernel
theorem d_D_reason_20 : decode prog_5_method_11_code 20 = .ok (.getfield 32, 3) := by decide +kernel
theorem d_D_reason_23 : decode prog_5_method_11_code 23 = .ok (.getfield 86, 3) := by decide +kernel
theorem d_D_reason_26 : decode prog_5_method_11_code 26 = .ok (.aload_n 0, 1) := by decide +kernel
theorem d_D_reason_27 : decode prog_5_method_11_code 27 = .ok (.iload_n 2, 1) := by decide +kernel
theorem d_D_reason_28 : decode prog_5_method_11_code 28 = .ok (.invokevirtual 80, 3) := by decide +kernel
theorem d_D_reason_31 : decode prog_5_method_11_code 31 = .ok (.iaload, 1) := by decide +kernel
theorem d_D_reason_32 : decode prog_5_method_11_code 32 = .ok (.istore 5, 2) := by decide +kernel
theorem d_D_reason_34 : decode prog_5_method_11_code 34 = .ok (.iconst 1, 1) := by decide +kernel
theorem d_D_reason_35 : decode prog_5_method_11_code 35 = .ok (.istore 6, 2) := by decide +kernel
theorem d_D_reason_37 : decode prog_5_method_11_code 37 = .ok (.iconst 0, 1) := by decide +kernel
theorem d_D_reason_38 : decode prog_5_method_11_code 38 = .ok (.istore 7, 2) := by decide +kernel
theorem d_D_reason_40 : decode prog_5_method_11_code 40 = .ok (.iload 7, 2) := by decide +kernel
theorem d_D_reason_42 : decode prog_5_method_11_code 42 = .ok (.aload_n 0, 1) := by decide +kernel
theorem d_D_reason_43 : decode prog_5_method_11_code 43 = .ok (.getfield 32, 3) := by decide +kernel
theorem d_D_reason_46 : decode prog_5_method_11_code 46 = .ok (.getfield 54, 3) := by decide +kernel
theorem d_D_reason_49 : decode prog_5_method_11_code 49 = .ok (.aload_n 0, 1) := by decide +kernel
theorem d_D_reason_50 : decode prog_5_method_11_code 50 = .ok (.getfield 28, 3) := by decide +kernel
theorem d_D_reason_53 : decode prog_5_method_11_code 53 = .ok (.iaload, 1) := by decide +kernel
theorem d_D_reason_54 : decode prog_5_method_11_code 54 = .ok (.if_icmp .ge 77, 3) := by decide +kernel
theorem d_D_reason_57 : decode prog_5_method_11_code 57 = .ok (.iload_n 3, 1) := by decide +kernel
theorem d_D_reason_58 : decode prog_5_method_11_code 58 = .ok (.iload 7, 2) := by decide +kernel
theorem d_D_reason_60 : decode prog_5_method_11_code 60 = .ok (.iushr, 1) := by decide +kernel
theorem d_D_reason_61 : decode prog_5_method_11_code 61 = .ok (.iconst 1, 1) := by decide +kernel
theorem d_D_reason_62 : decode prog_5_method_11_code 62 = .ok (.iand, 1) := by decide +kernel
theorem d_D_reason_63 : decode prog_5_method_11_code 63 = .ok (.ifCond .eq 62, 3) := by decide +kernel
theorem d_D_reason_66 : decode prog_5_method_11_code 66 = .ok (.aload_n 0, 1) := by decide +kernel
theorem d_D_reason_67 : decode prog_5_method_11_code 67 = .ok (.getfield 25, 3) := by decide +kernel
theorem d_D_reason_70 : decode prog_5_method_11_code 70 = .ok (.iload 7, 2) := by decide +kernel
theorem d_D_reason_72 : decode prog_5_method_11_code 72 = .ok (.iaload, 1) := by decide +kernel
theorem d_D_reason_73 : decode prog_5_method_11_code 73 = .ok (.aload_n 0, 1) := by decide +kernel
theorem d_D_reason_74 : decode prog_5_method_11_code 74 = .ok (.getfield 25, 3) := by decide +kernel
theorem d_D_reason_77 : decode prog_5_method_11_code 77 = .ok (.iload_n 2, 1) := by decide +kernel
theorem d_D_reason_78 : decode prog_5_method_11_code 78 = .ok (.iaload, 1) := by decide +kernel
theorem d_D_reason_79 : decode prog_5_method_11_code 79 = .ok (.if_icmp .ge 46, 3) := by decide +kernel
theorem d_D_reason_82 : decode prog_5_method_11_code 82 = .ok (.iload 4, 2) := by decide +kernel
theorem d_D_reason_84 : decode prog_5_method_11_code 84 = .ok (.iconst 1, 1) := by decide +kernel
theorem d_D_reason_85 : decode prog_5_method_11_code 85 = .ok (.aload_n 0, 1) := by decide +kernel
theorem d_D_reason_86 : decode prog_5_method_11_code 86 = .ok (.getfield 32, 3) := by decide +kernel
theorem d_D_reason_89 : decode prog_5_method_11_code 89 = .ok (.getfield 83, 3) := by decide +kernel
theorem d_D_reason_92 : decode prog_5_method_11_code 92 = .ok (.aload_n 0, 1) := by decide +kernel
theorem d_D_reason_93 : decode prog_5_method_11_code 93 = .ok (.iload 7, 2) := by decide +kernel
theorem d_D_reason_95 : decode prog_5_method_11_code 95 = .ok (.invokevirtual 80, 3) := by decide +kernel
theorem d_D_reason_98 : decode prog_5_method_11_code 98 = .ok (.iaload, 1) := by decide +kernel
theorem d_D_reason_99 : decode prog_5_method_11_code 99 = .ok (.ishl, 1) := by decide +kernel
theorem d_D_reason_100 : decode prog_5_method_11_code 100 = .ok (.ior, 1) := by decide +kernel
theorem d_D_reason_101 : decode prog_5_method_11_code 101 = .ok (.istore 4, 2) := by decide +kernel
theorem d_D_reason_103 : decode prog_5_method_11_code 103 = .ok (.iload 5, 2) := by decide +kernel
theorem d_D_reason_105 : decode prog_5_method_11_code 105 = .ok (.aload_n 0, 1) := by decide +kernel
theorem d_D_reason_106 : decode prog_5_method_11_code 106 = .ok (.getfield 32, 3) := by decide +kernel
theorem d_D_reason_109 : decode prog_5_method_11_code 109 = .ok (.getfield 86, 3) := by decide +kernel
theorem d_D_reason_112 : decode prog_5_method_11_code 112 = .ok (.aload_n 0, 1) := by decide +kernel
theorem d_D_reason_113 : decode prog_5_method_11_code 113 = .ok (.iload 7, 2) := by decide +kernel
theorem d_D_reason_115 : decode prog_5_method_11_code 115 = .ok (.invokevirtual 80, 3) := by decide +kernel
theorem d_D_reason_118 : decode prog_5_method_11_code 118 = .ok (.iaload, 1) := by decide +kernel
theorem d_D_reason_119 : decode prog_5_method_11_code 119 = .ok (.iadd, 1) := by decide +kernel
theorem d_D_reason_120 : decode prog_5_method_11_code 120 = .ok (.istore 5, 2) := by decide +kernel
theorem d_D_reason_122 : decode prog_5_method_11_code 122 = .ok (.iinc 6 1, 3) := by decide +kernel
theorem d_D_reason_125 : decode prog_5_method_11_code 125 = .ok (.iinc 7 1, 3) := by decide +kernel
theorem d_D_reason_128 : decode prog_5_method_11_code 128 = .ok (.goto (-88), 3) := by decide +kernel
theorem d_D_reason_131 : decode prog_5_method_11_code 131 = .ok (.iconst 1, 1) := by decide +kernel
theorem d_D_reason_132 : decode prog_5_method_11_code 132 = .ok (.aload_n 0, 1) := by decide +kernel
theorem d_D_reason_133 : decode prog_5_method_11_code 133 = .ok (.getfield 32, 3) := by decide +kernel
theorem d_D_reason_136 : decode prog_5_method_11_code 136 = .ok (.getfield 83, 3) := by decide +kernel
theorem d_D_reason_139 : decode prog_5_method_11_code 139 = .ok (.aload_n 0, 1) := by decide +kernel
theorem d_D_reason_140 : decode prog_5_method_11_code 140 = .ok (.iload_n 2, 1) := by decide +kernel
theorem d_D_reason_141 : decode prog_5_method_11_code 141 = .ok (.invokevirtual 80, 3) := by decide +kernel
theorem d_D_reason_144 : decode prog_5_method_11_code 144 = .ok (.iaload, 1) := by decide +kernel
theorem d_D_reason_145 : decode prog_5_method_11_code 145 = .ok (.ishl, 1) := by decide +kernel
theorem d_D_reason_146 : decode prog_5_method_11_code 146 = .ok (.istore 7, 2) := by decide +kernel
theorem d_D_reason_148 : decode prog_5_method_11_code 148 = .ok (.iload 4, 2) := by decide +kernel
theorem d_D_reason_150 : decode prog_5_method_11_code 150 = .ok (.iload 7, 2) := by decide +kernel
theorem d_D_reason_152 : decode prog_5_method_11_code 152 = .ok (.iand, 1) := by decide +kernel
theorem d_D_reason_153 : decode prog_5_method_11_code 153 = .ok (.ifCond .eq 5, 3) := by decide +kernel
theorem d_D_reason_156 : decode prog_5_method_11_code 156 = .ok (.iconst 1, 1) := by decide +kernel
theorem d_D_reason_157 : decode prog_5_method_11_code 157 = .ok (.ireturn, 1) := by decide +kernel
theorem d_D_reason_158 : decode prog_5_method_11_code 158 = .ok (.iload 6, 2) := by decide +kernel
theorem d_D_reason_160 : decode prog_5_method_11_code 160 = .ok (.aload_n 0, 1) := by decide +kernel
theorem d_D_reason_161 : decode prog_5_method_11_code 161 = .ok (.getfield 10, 3) := by decide +kernel
theorem d_D_reason_164 : decode prog_5_method_11_code 164 = .ok (.getfield 118, 3) := by decide +kernel
theorem d_D_reason_167 : decode prog_5_method_11_code 167 = .ok (.if_icmp .le 5, 3) := by decide +kernel
theorem d_D_reason_170 : decode prog_5_method_11_code 170 = .ok (.iconst 2, 1) := by decide +kernel
theorem d_D_reason_171 : decode prog_5_method_11_code 171 = .ok (.ireturn, 1) := by decide +kernel
theorem d_D_reason_172 : decode prog_5_method_11_code 172 = .ok (.iload 5, 2) := by decide +kernel
theorem d_D_reason_174 : decode prog_5_method_11_code 174 = .ok (.aload_n 0, 1) := by decide +kernel
theorem d_D_reason_175 : decode prog_5_method_11_code 175 = .ok (.getfield 10, 3) := by decide +kernel
theorem d_D_reason_178 : decode prog_5_method_11_code 178 = .ok (.getfield 89, 3) := by decide +kernel
theorem d_D_reason_181 : decode prog_5_method_11_code 181 = .ok (.if_icmp .le 5, 3) := by decide +kernel
theorem d_D_reason_184 : decode prog_5_method_11_code 184 = .ok (.iconst 3, 1) := by decide +kernel
theorem d_D_reason_185 : decode prog_5_method_11_code 185 = .ok (.ireturn, 1) := by decide +kernel
theorem d_D_reason_186 : decode prog_5_method_11_code 186 = .ok (.aload_n 0, 1) := by decide +kernel
theorem d_D_reason_187 : decode prog_5_method_11_code 187 = .ok (.iload 4, 2) := by decide +kernel
theorem d_D_reason_189 : decode prog_5_method_11_code 189 = .ok (.iload 7, 2) := by decide +kernel
theorem d_D_reason_191 : decode prog_5_method_11_code 191 = .ok (.ior, 1) := by decide +kernel
theorem d_D_reason_192 : decode prog_5_method_11_code 192 = .ok (.aload_n 0, 1) := by decide +kernel
theorem d_D_reason_193 : decode prog_5_method_11_code 193 = .ok (.getfield 10, 3) := by decide +kernel
theorem d_D_reason_196 : decode prog_5_method_11_code 196 = .ok (.getfield 118, 3) := by decide +kernel
theorem d_D_reason_199 : decode prog_5_method_11_code 199 = .ok (.invokevirtual 92, 3) := by decide +kernel
theorem d_D_reason_202 : decode prog_5_method_11_code 202 = .ok (.ifCond .ne 5, 3) := by decide +kernel
theorem d_D_reason_205 : decode prog_5_method_11_code 205 = .ok (.iconst 4, 1) := by decide +kernel
theorem d_D_reason_206 : decode prog_5_method_11_code 206 = .ok (.ireturn, 1) := by decide +kernel
theorem d_D_reason_207 : decode prog_5_method_11_code 207 = .ok (.aload_n 0, 1) := by decide +kernel
theorem d_D_reason_208 : decode prog_5_method_11_code 208 = .ok (.getfield 10, 3) := by decide +kernel
theorem d_D_reason_211 : decode prog_5_method_11_code 211 = .ok (.iload 4, 2) := by decide +kernel
theorem d_D_reason_213 : decode prog_5_method_11_code 213 = .ok (.iload 7, 2) := by decide +kernel
theorem d_D_reason_215 : decode prog_5_method_11_code 215 = .ok (.ior, 1) := by decide +kernel
theorem d_D_reason_216 : decode prog_5_method_11_code 216 = .ok (.invokevirtual 99, 3) := by decide +kernel
theorem d_D_reason_219 : decode prog_5_method_11_code 219 = .ok (.ifCond .eq 8, 3) := by decide +kernel
theorem d_D_reason_222 : decode prog_5_method_11_code 222 = .ok (.bipush 6, 2) := by decide +kernel
theorem d_D_reason_224 : decode prog_5_method_11_code 224 = .ok (.goto 4, 3) := by decide +kernel
theorem d_D_reason_227 : decode prog_5_method_11_code 227 = .ok (.iconst 5, 1) := by decide +kernel
theorem d_D_reason_228 : decode prog_5_method_11_code 228 = .ok (.ireturn, 1) := by decide +kernel
theorem d_D_placeOf_0 : decode prog_5_method_4_code 0 = .ok (.aload_n 0, 1) := by decide +kernel
theorem d_D_placeOf_1 : decode prog_5_method_4_code 1 = .ok (.invokevirtual 51, 3) := by decide +kernel
theorem d_D_placeOf_4 : decode prog_5_method_4_code 4 = .ok (.aload_n 0, 1) := by decide +kernel
theorem d_D_placeOf_5 : decode prog_5_method_4_code 5 = .ok (.getfield 25, 3) := by decide +kernel
theorem d_D_placeOf_8 : decode prog_5_method_4_code 8 = .ok (.iload_n 1, 1) := by decide +kernel
theorem d_D_placeOf_9 : decode prog_5_method_4_code 9 = .ok (.iaload, 1) := by decide +kernel
theorem d_D_placeOf_10 : decode prog_5_method_4_code 10 = .ok (.ireturn, 1) := by decide +kernel
theorem d_D_gainsBy_0 : decode prog_5_method_6_code 0 = .ok (.aload_n 0, 1) := by decide +kernel
theorem d_D_gainsBy_1 : decode prog_5_method_6_code 1 = .ok (.getfield 10, 3) := by decide +kernel
theorem d_D_gainsBy_4 : decode prog_5_method_6_code 4 = .ok (.getfield 72, 3) := by decide +kernel
theorem d_D_gainsBy_7 : decode prog_5_method_6_code 7 = .ok (.ifCond .eq 24, 3) := by decide +kernel
theorem d_D_gainsBy_10 : decode prog_5_method_6_code 10 = .ok (.aload_n 0, 1) := by decide +kernel
theorem d_D_gainsBy_11 : decode prog_5_method_6_code 11 = .ok (.getfield 10, 3) := by decide +kernel
theorem d_D_gainsBy_14 : decode prog_5_method_6_code 14 = .ok (.iload_n 1, 1) := by decide +kernel
theorem d_D_gainsBy_15 : decode prog_5_method_6_code 15 = .ok (.invokevirtual 57, 3) := by decide +kernel
theorem d_D_gainsBy_18 : decode prog_5_method_6_code 18 = .ok (.aload_n 0, 1) := by decide +kernel
theorem d_D_gainsBy_19 : decode prog_5_method_6_code 19 = .ok (.getfield 10, 3) := by decide +kernel
theorem d_D_gainsBy_22 : decode prog_5_method_6_code 22 = .ok (.iload_n 1, 1) := by decide +kernel
theorem d_D_gainsBy_23 : decode prog_5_method_6_code 23 = .ok (.iconst 1, 1) := by decide +kernel
theorem d_D_gainsBy_24 : decode prog_5_method_6_code 24 = .ok (.isub, 1) := by decide +kernel
theorem d_D_gainsBy_25 : decode prog_5_method_6_code 25 = .ok (.invokevirtual 57, 3) := by decide +kernel
theorem d_D_gainsBy_28 : decode prog_5_method_6_code 28 = .ok (.if_icmp .ne 5, 3) := by decide +kernel
theorem d_D_gainsBy_31 : decode prog_5_method_6_code 31 = .ok (.iconst 0, 1) := by decide +kernel
theorem d_D_gainsBy_32 : decode prog_5_method_6_code 32 = .ok (.ireturn, 1) := by decide +kernel
theorem d_D_gainsBy_33 : decode prog_5_method_6_code 33 = .ok (.aload_n 0, 1) := by decide +kernel
theorem d_D_gainsBy_34 : decode prog_5_method_6_code 34 = .ok (.iload_n 1, 1) := by decide +kernel
theorem d_D_gainsBy_35 : decode prog_5_method_6_code 35 = .ok (.iconst 1, 1) := by decide +kernel
theorem d_D_gainsBy_36 : decode prog_5_method_6_code 36 = .ok (.isub, 1) := by decide +kernel
theorem d_D_gainsBy_37 : decode prog_5_method_6_code 37 = .ok (.invokevirtual 47, 3) := by decide +kernel
theorem d_D_gainsBy_40 : decode prog_5_method_6_code 40 = .ok (.aload_n 0, 1) := by decide +kernel
theorem d_D_gainsBy_41 : decode prog_5_method_6_code 41 = .ok (.iload_n 1, 1) := by decide +kernel
theorem d_D_gainsBy_42 : decode prog_5_method_6_code 42 = .ok (.invokevirtual 47, 3) := by decide +kernel
theorem d_D_gainsBy_45 : decode prog_5_method_6_code 45 = .ok (.iconst 0, 1) := by decide +kernel
theorem d_D_gainsBy_46 : decode prog_5_method_6_code 46 = .ok (.istore_n 2, 1) := by decide +kernel
theorem d_D_gainsBy_47 : decode prog_5_method_6_code 47 = .ok (.iload_n 2, 1) := by decide +kernel
theorem d_D_gainsBy_48 : decode prog_5_method_6_code 48 = .ok (.iconst 1, 1) := by decide +kernel
theorem d_D_gainsBy_49 : decode prog_5_method_6_code 49 = .ok (.aload_n 0, 1) := by decide +kernel
theorem d_D_gainsBy_50 : decode prog_5_method_6_code 50 = .ok (.getfield 32, 3) := by decide +kernel
theorem d_D_gainsBy_53 : decode prog_5_method_6_code 53 = .ok (.getfield 54, 3) := by decide +kernel
theorem d_D_gainsBy_56 : decode prog_5_method_6_code 56 = .ok (.aload_n 0, 1) := by decide +kernel
theorem d_D_gainsBy_57 : decode prog_5_method_6_code 57 = .ok (.getfield 28, 3) := by decide +kernel
theorem d_D_gainsBy_60 : decode prog_5_method_6_code 60 = .ok (.iaload, 1) := by decide +kernel
theorem d_D_gainsBy_61 : decode prog_5_method_6_code 61 = .ok (.ishl, 1) := by decide +kernel
theorem d_D_gainsBy_62 : decode prog_5_method_6_code 62 = .ok (.if_icmp .ge 40, 3) := by decide +kernel
theorem d_D_gainsBy_65 : decode prog_5_method_6_code 65 = .ok (.aload_n 0, 1) := by decide +kernel
theorem d_D_gainsBy_66 : decode prog_5_method_6_code 66 = .ok (.getfield 16, 3) := by decide +kernel
theorem d_D_gainsBy_69 : decode prog_5_method_6_code 69 = .ok (.iload_n 1, 1) := by decide +kernel
theorem d_D_gainsBy_70 : decode prog_5_method_6_code 70 = .ok (.sipush 256, 3) := by decide +kernel
theorem d_D_gainsBy_73 : decode prog_5_method_6_code 73 = .ok (.imul, 1) := by decide +kernel
theorem d_D_gainsBy_74 : decode prog_5_method_6_code 74 = .ok (.iload_n 2, 1) := by decide +kernel
theorem d_D_gainsBy_75 : decode prog_5_method_6_code 75 = .ok (.iadd, 1) := by decide +kernel
theorem d_D_gainsBy_76 : decode prog_5_method_6_code 76 = .ok (.iaload, 1) := by decide +kernel
theorem d_D_gainsBy_77 : decode prog_5_method_6_code 77 = .ok (.aload_n 0, 1) := by decide +kernel
theorem d_D_gainsBy_78 : decode prog_5_method_6_code 78 = .ok (.getfield 16, 3) := by decide +kernel
theorem d_D_gainsBy_81 : decode prog_5_method_6_code 81 = .ok (.iload_n 1, 1) := by decide +kernel
theorem d_D_gainsBy_82 : decode prog_5_method_6_code 82 = .ok (.iconst 1, 1) := by decide +kernel
theorem d_D_gainsBy_83 : decode prog_5_method_6_code 83 = .ok (.isub, 1) := by decide +kernel
theorem d_D_gainsBy_84 : decode prog_5_method_6_code 84 = .ok (.sipush 256, 3) := by decide +kernel
theorem d_D_gainsBy_87 : decode prog_5_method_6_code 87 = .ok (.imul, 1) := by decide +kernel
theorem d_D_gainsBy_88 : decode prog_5_method_6_code 88 = .ok (.iload_n 2, 1) := by decide +kernel
theorem d_D_gainsBy_89 : decode prog_5_method_6_code 89 = .ok (.iadd, 1) := by decide +kernel
theorem d_D_gainsBy_90 : decode prog_5_method_6_code 90 = .ok (.iaload, 1) := by decide +kernel
theorem d_D_gainsBy_91 : decode prog_5_method_6_code 91 = .ok (.if_icmp .eq 5, 3) := by decide +kernel
theorem d_D_gainsBy_94 : decode prog_5_method_6_code 94 = .ok (.iconst 1, 1) := by decide +kernel
theorem d_D_gainsBy_95 : decode prog_5_method_6_code 95 = .ok (.ireturn, 1) := by decide +kernel
theorem d_D_gainsBy_96 : decode prog_5_method_6_code 96 = .ok (.iinc 2 1, 3) := by decide +kernel
theorem d_D_gainsBy_99 : decode prog_5_method_6_code 99 = .ok (.goto (-52), 3) := by decide +kernel
theorem d_D_gainsBy_102 : decode prog_5_method_6_code 102 = .ok (.iconst 0, 1) := by decide +kernel
theorem d_D_gainsBy_103 : decode prog_5_method_6_code 103 = .ok (.ireturn, 1) := by decide +kernel
