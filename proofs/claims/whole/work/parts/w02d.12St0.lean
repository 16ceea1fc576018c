theorem d_St_init_0 : decode prog_10_method_1_code 0 = .ok (.aload_n 0, 1) := by decide +kernel
theorem d_St_init_1 : decode prog_10_method_1_code 1 = .ok (.invokespecial 3, 3) := by decide +kernel
theorem d_St_init_4 : decode prog_10_method_1_code 4 = .ok (.aload_n 0, 1) := by decide +kernel
theorem d_St_init_5 : decode prog_10_method_1_code 5 = .ok (.bipush 64, 2) := by decide +kernel
theorem d_St_init_7 : decode prog_10_method_1_code 7 = .ok (.newarray .long, 2) := by decide +kernel
theorem d_St_init_9 : decode prog_10_method_1_code 9 = .ok (.putfield 11, 3) := by decide +kernel
theorem d_St_init_12 : decode prog_10_method_1_code 12 = .ok (.aload_n 0, 1) := by decide +kernel
theorem d_St_init_13 : decode prog_10_method_1_code 13 = .ok (.bipush 64, 2) := by decide +kernel
theorem d_St_init_15 : decode prog_10_method_1_code 15 = .ok (.newarray .int, 2) := by decide +kernel
theorem d_St_init_17 : decode prog_10_method_1_code 17 = .ok (.putfield 17, 3) := by decide +kernel
theorem d_St_init_20 : decode prog_10_method_1_code 20 = .ok (.aload_n 0, 1) := by decide +kernel
theorem d_St_init_21 : decode prog_10_method_1_code 21 = .ok (.bipush 64, 2) := by decide +kernel
theorem d_St_init_23 : decode prog_10_method_1_code 23 = .ok (.newarray .int, 2) := by decide +kernel
theorem d_St_init_25 : decode prog_10_method_1_code 25 = .ok (.putfield 21, 3) := by decide +kernel
theorem d_St_init_28 : decode prog_10_method_1_code 28 = .ok (.aload_n 0, 1) := by decide +kernel
theorem d_St_init_29 : decode prog_10_method_1_code 29 = .ok (.bipush 64, 2) := by decide +kernel
theorem d_St_init_31 : decode prog_10_method_1_code 31 = .ok (.newarray .int, 2) := by decide +kernel
theorem d_St_init_33 : decode prog_10_method_1_code 33 = .ok (.putfield 24, 3) := by decide +kernel
theorem d_St_init_36 : decode prog_10_method_1_code 36 = .ok (.aload_n 0, 1) := by decide +kernel
theorem d_St_init_37 : decode prog_10_method_1_code 37 = .ok (.bipush 64, 2) := by decide +kernel
theorem d_St_init_39 : decode prog_10_method_1_code 39 = .ok (.newarray .int, 2) := by decide +kernel
theorem d_St_init_41 : decode prog_10_method_1_code 41 = .ok (.putfield 27, 3) := by decide +kernel
theorem d_St_init_44 : decode prog_10_method_1_code 44 = .ok (.aload_n 0, 1) := by decide +kernel
theorem d_St_init_45 : decode prog_10_method_1_code 45 = .ok (.sipush 128, 3) := by decide +kernel
theorem d_St_init_48 : decode prog_10_method_1_code 48 = .ok (.newarray .int, 2) := by decide +kernel
theorem d_St_init_50 : decode prog_10_method_1_code 50 = .ok (.putfield 30, 3) := by decide +kernel
theorem d_St_init_53 : decode prog_10_method_1_code 53 = .ok (.aload_n 0, 1) := by decide +kernel
theorem d_St_init_54 : decode prog_10_method_1_code 54 = .ok (.aload_n 1, 1) := by decide +kernel
theorem d_St_init_55 : decode prog_10_method_1_code 55 = .ok (.putfield 33, 3) := by decide +kernel
theorem d_St_init_58 : decode prog_10_method_1_code 58 = .ok (.aload_n 0, 1) := by decide +kernel
theorem d_St_init_59 : decode prog_10_method_1_code 59 = .ok (.aload_n 2, 1) := by decide +kernel
theorem d_St_init_60 : decode prog_10_method_1_code 60 = .ok (.putfield 37, 3) := by decide +kernel
theorem d_St_init_63 : decode prog_10_method_1_code 63 = .ok (.aload_n 0, 1) := by decide +kernel
theorem d_St_init_64 : decode prog_10_method_1_code 64 = .ok (.aload_n 3, 1) := by decide +kernel
theorem d_St_init_65 : decode prog_10_method_1_code 65 = .ok (.putfield 41, 3) := by decide +kernel
theorem d_St_init_68 : decode prog_10_method_1_code 68 = .ok (.aload_n 0, 1) := by decide +kernel
theorem d_St_init_69 : decode prog_10_method_1_code 69 = .ok (.aload 4, 2) := by decide +kernel
theorem d_St_init_71 : decode prog_10_method_1_code 71 = .ok (.putfield 45, 3) := by decide +kernel
theorem d_St_init_74 : decode prog_10_method_1_code 74 = .ok (.aload_n 0, 1) := by decide +kernel
theorem d_St_init_75 : decode prog_10_method_1_code 75 = .ok (.aload 4, 2) := by decide +kernel
theorem d_St_init_77 : decode prog_10_method_1_code 77 = .ok (.getfield 49, 3) := by decide +kernel
theorem d_St_init_80 : decode prog_10_method_1_code 80 = .ok (.putfield 52, 3) := by decide +kernel
theorem d_St_init_83 : decode prog_10_method_1_code 83 = .ok (.return_, 1) := by decide +kernel
theorem d_St_know_0 : decode prog_10_method_2_code 0 = .ok (.aload_n 0, 1) := by decide +kernel
theorem d_St_know_1 : decode prog_10_method_2_code 1 = .ok (.getfield 55, 3) := by decide +kernel
theorem d_St_know_4 : decode prog_10_method_2_code 4 = .ok (.ifCond .eq 4, 3) := by decide +kernel
theorem d_St_know_7 : decode prog_10_method_2_code 7 = .ok (.return_, 1) := by decide +kernel
theorem d_St_know_8 : decode prog_10_method_2_code 8 = .ok (.aload_n 0, 1) := by decide +kernel
theorem d_St_know_9 : decode prog_10_method_2_code 9 = .ok (.getfield 41, 3) := by decide +kernel
theorem d_St_know_12 : decode prog_10_method_2_code 12 = .ok (.invokevirtual 59, 3) := by decide +kernel
theorem d_St_know_15 : decode prog_10_method_2_code 15 = .ok (.aload_n 0, 1) := by decide +kernel
theorem d_St_know_16 : decode prog_10_method_2_code 16 = .ok (.getfield 45, 3) := by decide +kernel
theorem d_St_know_19 : decode prog_10_method_2_code 19 = .ok (.iconst 0, 1) := by decide +kernel
theorem d_St_know_20 : decode prog_10_method_2_code 20 = .ok (.invokevirtual 64, 3) := by decide +kernel
theorem d_St_know_23 : decode prog_10_method_2_code 23 = .ok (.aload_n 0, 1) := by decide +kernel
theorem d_St_know_24 : decode prog_10_method_2_code 24 = .ok (.getfield 45, 3) := by decide +kernel
theorem d_St_know_27 : decode prog_10_method_2_code 27 = .ok (.iconst 0, 1) := by decide +kernel
theorem d_St_know_28 : decode prog_10_method_2_code 28 = .ok (.iconst 0, 1) := by decide +kernel
theorem d_St_know_29 : decode prog_10_method_2_code 29 = .ok (.iconst 0, 1) := by decide +kernel
theorem d_St_know_30 : decode prog_10_method_2_code 30 = .ok (.aload_n 0, 1) := by decide +kernel
theorem d_St_know_31 : decode prog_10_method_2_code 31 = .ok (.getfield 45, 3) := by decide +kernel
theorem d_St_know_34 : decode prog_10_method_2_code 34 = .ok (.getfield 68, 3) := by decide +kernel
theorem d_St_know_37 : decode prog_10_method_2_code 37 = .ok (.iconst 0, 1) := by decide +kernel
theorem d_St_know_38 : decode prog_10_method_2_code 38 = .ok (.invokevirtual 72, 3) := by decide +kernel
theorem d_St_know_41 : decode prog_10_method_2_code 41 = .ok (.pop, 1) := by decide +kernel
theorem d_St_know_42 : decode prog_10_method_2_code 42 = .ok (.aload_n 0, 1) := by decide +kernel
theorem d_St_know_43 : decode prog_10_method_2_code 43 = .ok (.aload_n 0, 1) := by decide +kernel
theorem d_St_know_44 : decode prog_10_method_2_code 44 = .ok (.getfield 45, 3) := by decide +kernel
theorem d_St_know_47 : decode prog_10_method_2_code 47 = .ok (.getfield 49, 3) := by decide +kernel
theorem d_St_know_50 : decode prog_10_method_2_code 50 = .ok (.putfield 52, 3) := by decide +kernel
theorem d_St_know_53 : decode prog_10_method_2_code 53 = .ok (.aload_n 0, 1) := by decide +kernel
theorem d_St_know_54 : decode prog_10_method_2_code 54 = .ok (.aload_n 0, 1) := by decide +kernel
theorem d_St_know_55 : decode prog_10_method_2_code 55 = .ok (.getfield 45, 3) := by decide +kernel
theorem d_St_know_58 : decode prog_10_method_2_code 58 = .ok (.getfield 76, 3) := by decide +kernel
theorem d_St_know_61 : decode prog_10_method_2_code 61 = .ok (.putfield 79, 3) := by decide +kernel
theorem d_St_know_64 : decode prog_10_method_2_code 64 = .ok (.aload_n 0, 1) := by decide +kernel
theorem d_St_know_65 : decode prog_10_method_2_code 65 = .ok (.iconst 0, 1) := by decide +kernel
theorem d_St_know_66 : decode prog_10_method_2_code 66 = .ok (.putfield 82, 3) := by decide +kernel
theorem d_St_know_69 : decode prog_10_method_2_code 69 = .ok (.aload_n 0, 1) := by decide +kernel
theorem d_St_know_70 : decode prog_10_method_2_code 70 = .ok (.iconst 1, 1) := by decide +kernel
theorem d_St_know_71 : decode prog_10_method_2_code 71 = .ok (.putfield 55, 3) := by decide +kernel
theorem d_St_know_74 : decode prog_10_method_2_code 74 = .ok (.return_, 1) := by decide +kernel
theorem d_St_isBeyond_0 : decode prog_10_method_5_code 0 = .ok (.aload_n 0, 1) := by decide +kernel
theorem d_St_isBeyond_1 : decode prog_10_method_5_code 1 = .ok (.getfield 11, 3) := by decide +kernel
theorem d_St_isBeyond_4 : decode prog_10_method_5_code 4 = .ok (.iload_n 3, 1) := by decide +kernel
theorem d_St_isBeyond_5 : decode prog_10_method_5_code 5 = .ok (.ifCond .eq 7, 3) := by decide +kernel
theorem d_St_isBeyond_8 : decode prog_10_method_5_code 8 = .ok (.iload_n 1, 1) := by decide +kernel
theorem d_St_isBeyond_9 : decode prog_10_method_5_code 9 = .ok (.goto 4, 3) := by decide +kernel
theorem d_St_isBeyond_12 : decode prog_10_method_5_code 12 = .ok (.iload_n 2, 1) := by decide +kernel
theorem d_St_isBeyond_13 : decode prog_10_method_5_code 13 = .ok (.laload, 1) := by decide +kernel
theorem d_St_isBeyond_14 : decode prog_10_method_5_code 14 = .ok (.lstore 4, 2) := by decide +kernel
theorem d_St_isBeyond_16 : decode prog_10_method_5_code 16 = .ok (.aload_n 0, 1) := by decide +kernel
theorem d_St_isBeyond_17 : decode prog_10_method_5_code 17 = .ok (.getfield 11, 3) := by decide +kernel
theorem d_St_isBeyond_20 : decode prog_10_method_5_code 20 = .ok (.iload_n 3, 1) := by decide +kernel
theorem d_St_isBeyond_21 : decode prog_10_method_5_code 21 = .ok (.ifCond .eq 7, 3) := by decide +kernel
theorem d_St_isBeyond_24 : decode prog_10_method_5_code 24 = .ok (.iload_n 2, 1) := by decide +kernel
theorem d_St_isBeyond_25 : decode prog_10_method_5_code 25 = .ok (.goto 4, 3) := by decide +kernel
theorem d_St_isBeyond_28 : decode prog_10_method_5_code 28 = .ok (.iload_n 1, 1) := by decide +kernel
theorem d_St_isBeyond_29 : decode prog_10_method_5_code 29 = .ok (.laload, 1) := by decide +kernel
theorem d_St_isBeyond_30 : decode prog_10_method_5_code 30 = .ok (.lstore 6, 2) := by decide +kernel
theorem d_St_isBeyond_32 : decode prog_10_method_5_code 32 = .ok (.lload 4, 2) := by decide +kernel
theorem d_St_isBeyond_34 : decode prog_10_method_5_code 34 = .ok (.lload 6, 2) := by decide +kernel
theorem d_St_isBeyond_36 : decode prog_10_method_5_code 36 = .ok (.lcmp, 1) := by decide +kernel
theorem d_St_isBeyond_37 : decode prog_10_method_5_code 37 = .ok (.ifCond .eq 27, 3) := by decide +kernel
theorem d_St_isBeyond_40 : decode prog_10_method_5_code 40 = .ok (.lload 6, 2) := by decide +kernel
theorem d_St_isBeyond_42 : decode prog_10_method_5_code 42 = .ok (.ldc2_w 92, 3) := by decide +kernel
theorem d_St_isBeyond_45 : decode prog_10_method_5_code 45 = .ok (.lor, 1) := by decide +kernel
theorem d_St_isBeyond_46 : decode prog_10_method_5_code 46 = .ok (.lload 4, 2) := by decide +kernel
theorem d_St_isBeyond_48 : decode prog_10_method_5_code 48 = .ok (.lsub, 1) := by decide +kernel
theorem d_St_isBeyond_49 : decode prog_10_method_5_code 49 = .ok (.ldc2_w 92, 3) := by decide +kernel
theorem d_St_isBeyond_52 : decode prog_10_method_5_code 52 = .ok (.land, 1) := by decide +kernel
theorem d_St_isBeyond_53 : decode prog_10_method_5_code 53 = .ok (.ldc2_w 92, 3) := by decide +kernel
theorem d_St_isBeyond_56 : decode prog_10_method_5_code 56 = .ok (.lcmp, 1) := by decide +kernel
theorem d_St_isBeyond_57 : decode prog_10_method_5_code 57 = .ok (.ifCond .ne 7, 3) := by decide +kernel
theorem d_St_isBeyond_60 : decode prog_10_method_5_code 60 = .ok (.iconst 1, 1) := by decide +kernel
theorem d_St_isBeyond_61 : decode prog_10_method_5_code 61 = .ok (.goto 4, 3) := by decide +kernel
theorem d_St_isBeyond_64 : decode prog_10_method_5_code 64 = .ok (.iconst 0, 1) := by decide +kernel
theorem d_St_isBeyond_65 : decode prog_10_method_5_code 65 = .ok (.ireturn, 1) := by decide +kernel
theorem d_St_makeRoom_0 : decode prog_10_method_7_code 0 = .ok (.aload_n 0, 1) := by decide +kernel
theorem d_St_makeRoom_1 : decode prog_10_method_7_code 1 = .ok (.getfield 11, 3) := by decide +kernel
theorem d_St_makeRoom_4 : decode prog_10_method_7_code 4 = .ok (.arraylength, 1) := by decide +kernel
theorem d_St_makeRoom_5 : decode prog_10_method_7_code 5 = .ok (.aload_n 0, 1) := by decide +kernel
theorem d_St_makeRoom_6 : decode prog_10_method_7_code 6 = .ok (.getfield 79, 3) := by decide +kernel
theorem d_St_makeRoom_9 : decode prog_10_method_7_code 9 = .ok (.if_icmp .ge 58, 3) := by decide +kernel
theorem d_St_makeRoom_12 : decode prog_10_method_7_code 12 = .ok (.aload_n 0, 1) := by decide +kernel
theorem d_St_makeRoom_13 : decode prog_10_method_7_code 13 = .ok (.aload_n 0, 1) := by decide +kernel
theorem d_St_makeRoom_14 : decode prog_10_method_7_code 14 = .ok (.getfield 52, 3) := by decide +kernel
theorem d_St_makeRoom_17 : decode prog_10_method_7_code 17 = .ok (.arraylength, 1) := by decide +kernel
theorem d_St_makeRoom_18 : decode prog_10_method_7_code 18 = .ok (.newarray .long, 2) := by decide +kernel
theorem d_St_makeRoom_20 : decode prog_10_method_7_code 20 = .ok (.putfield 11, 3) := by decide +kernel
theorem d_St_makeRoom_23 : decode prog_10_method_7_code 23 = .ok (.aload_n 0, 1) := by decide +kernel
theorem d_St_makeRoom_24 : decode prog_10_method_7_code 24 = .ok (.aload_n 0, 1) := by decide +kernel
theorem d_St_makeRoom_25 : decode prog_10_method_7_code 25 = .ok (.getfield 52, 3) := by decide +kernel
theorem d_St_makeRoom_28 : decode prog_10_method_7_code 28 = .ok (.arraylength, 1) := by decide +kernel
theorem d_St_makeRoom_29 : decode prog_10_method_7_code 29 = .ok (.newarray .int, 2) := by decide +kernel
theorem d_St_makeRoom_31 : decode prog_10_method_7_code 31 = .ok (.putfield 17, 3) := by decide +kernel
theorem d_St_makeRoom_34 : decode prog_10_method_7_code 34 = .ok (.aload_n 0, 1) := by decide +kernel
theorem d_St_makeRoom_35 : decode prog_10_method_7_code 35 = .ok (.aload_n 0, 1) := by decide +kernel
theorem d_St_makeRoom_36 : decode prog_10_method_7_code 36 = .ok (.getfield 52, 3) := by decide +kernel
theorem d_St_makeRoom_39 : decode prog_10_method_7_code 39 = .ok (.arraylength, 1) := by decide +kernel
theorem d_St_makeRoom_40 : decode prog_10_method_7_code 40 = .ok (.newarray .int, 2) := by decide +kernel
theorem d_St_makeRoom_42 : decode prog_10_method_7_code 42 = .ok (.putfield 21, 3) := by decide +kernel
theorem d_St_makeRoom_45 : decode prog_10_method_7_code 45 = .ok (.aload_n 0, 1) := by decide +kernel
theorem d_St_makeRoom_46 : decode prog_10_method_7_code 46 = .ok (.aload_n 0, 1) := by decide +kernel
theorem d_St_makeRoom_47 : decode prog_10_method_7_code 47 = .ok (.getfield 52, 3) := by decide +kernel
theorem d_St_makeRoom_50 : decode prog_10_method_7_code 50 = .ok (.arraylength, 1) := by decide +kernel
theorem d_St_makeRoom_51 : decode prog_10_method_7_code 51 = .ok (.newarray .int, 2) := by decide +kernel
theorem d_St_makeRoom_53 : decode prog_10_method_7_code 53 = .ok (.putfield 24, 3) := by decide +kernel
theorem d_St_makeRoom_56 : decode prog_10_method_7_code 56 = .ok (.aload_n 0, 1) := by decide +kernel
theorem d_St_makeRoom_57 : decode prog_10_method_7_code 57 = .ok (.aload_n 0, 1) := by decide +kernel
theorem d_St_makeRoom_58 : decode prog_10_method_7_code 58 = .ok (.getfield 52, 3) := by decide +kernel
theorem d_St_makeRoom_61 : decode prog_10_method_7_code 61 = .ok (.arraylength, 1) := by decide +kernel
theorem d_St_makeRoom_62 : decode prog_10_method_7_code 62 = .ok (.newarray .int, 2) := by decide +kernel
theorem d_St_makeRoom_64 : decode prog_10_method_7_code 64 = .ok (.putfield 27, 3) := by decide +kernel
theorem d_St_makeRoom_67 : decode prog_10_method_7_code 67 = .ok (.return_, 1) := by decide +kernel
theorem d_St_ranksOf_0 : decode prog_10_method_8_code 0 = .ok (.lconst 0, 1) := by decide +kernel
theorem d_St_ranksOf_1 : decode prog_10_method_8_code 1 = .ok (.lstore_n 2, 1) := by decide +kernel
theorem d_St_ranksOf_2 : decode prog_10_method_8_code 2 = .ok (.iconst 0, 1) := by decide +kernel
theorem d_St_ranksOf_3 : decode prog_10_method_8_code 3 = .ok (.istore 4, 2) := by decide +kernel
theorem d_St_ranksOf_5 : decode prog_10_method_8_code 5 = .ok (.iload 4, 2) := by decide +kernel
theorem d_St_ranksOf_7 : decode prog_10_method_8_code 7 = .ok (.aload_n 0, 1) := by decide +kernel
theorem d_St_ranksOf_8 : decode prog_10_method_8_code 8 = .ok (.getfield 33, 3) := by decide +kernel
theorem d_St_ranksOf_11 : decode prog_10_method_8_code 11 = .ok (.getfield 111, 3) := by decide +kernel
theorem d_St_ranksOf_14 : decode prog_10_method_8_code 14 = .ok (.if_icmp .ge 43, 3) := by decide +kernel
theorem d_St_ranksOf_17 : decode prog_10_method_8_code 17 = .ok (.aload_n 0, 1) := by decide +kernel
theorem d_St_ranksOf_18 : decode prog_10_method_8_code 18 = .ok (.getfield 33, 3) := by decide +kernel
theorem d_St_ranksOf_21 : decode prog_10_method_8_code 21 = .ok (.iload 4, 2) := by decide +kernel
theorem d_St_ranksOf_23 : decode prog_10_method_8_code 23 = .ok (.invokevirtual 114, 3) := by decide +kernel
theorem d_St_ranksOf_26 : decode prog_10_method_8_code 26 = .ok (.ifCond .eq 25, 3) := by decide +kernel
theorem d_St_ranksOf_29 : decode prog_10_method_8_code 29 = .ok (.lload_n 2, 1) := by decide +kernel
theorem d_St_ranksOf_30 : decode prog_10_method_8_code 30 = .ok (.aload_n 0, 1) := by decide +kernel
theorem d_St_ranksOf_31 : decode prog_10_method_8_code 31 = .ok (.getfield 41, 3) := by decide +kernel
theorem d_St_ranksOf_34 : decode prog_10_method_8_code 34 = .ok (.iload 4, 2) := by decide +kernel
theorem d_St_ranksOf_36 : decode prog_10_method_8_code 36 = .ok (.iload_n 1, 1) := by decide +kernel
theorem d_St_ranksOf_37 : decode prog_10_method_8_code 37 = .ok (.invokevirtual 118, 3) := by decide +kernel
theorem d_St_ranksOf_40 : decode prog_10_method_8_code 40 = .ok (.bipush 15, 2) := by decide +kernel
theorem d_St_ranksOf_42 : decode prog_10_method_8_code 42 = .ok (.iand, 1) := by decide +kernel
theorem d_St_ranksOf_43 : decode prog_10_method_8_code 43 = .ok (.i2l, 1) := by decide +kernel
theorem d_St_ranksOf_44 : decode prog_10_method_8_code 44 = .ok (.iconst 5, 1) := by decide +kernel
theorem d_St_ranksOf_45 : decode prog_10_method_8_code 45 = .ok (.iload 4, 2) := by decide +kernel
theorem d_St_ranksOf_47 : decode prog_10_method_8_code 47 = .ok (.imul, 1) := by decide +kernel
theorem d_St_ranksOf_48 : decode prog_10_method_8_code 48 = .ok (.lshl, 1) := by decide +kernel
theorem d_St_ranksOf_49 : decode prog_10_method_8_code 49 = .ok (.lor, 1) := by decide +kernel
theorem d_St_ranksOf_50 : decode prog_10_method_8_code 50 = .ok (.lstore_n 2, 1) := by decide +kernel
theorem d_St_ranksOf_51 : decode prog_10_method_8_code 51 = .ok (.iinc 4 1, 3) := by decide +kernel
theorem d_St_ranksOf_54 : decode prog_10_method_8_code 54 = .ok (.goto (-49), 3) := by decide +kernel
theorem d_St_ranksOf_57 : decode prog_10_method_8_code 57 = .ok (.iconst 0, 1) := by decide +kernel
theorem d_St_ranksOf_58 : decode prog_10_method_8_code 58 = .ok (.istore 4, 2) := by decide +kernel
theorem d_St_ranksOf_60 : decode prog_10_method_8_code 60 = .ok (.iload 4, 2) := by decide +kernel
theorem d_St_ranksOf_62 : decode prog_10_method_8_code 62 = .ok (.aload_n 0, 1) := by decide +kernel
theorem d_St_ranksOf_63 : decode prog_10_method_8_code 63 = .ok (.getfield 37, 3) := by decide +kernel
theorem d_St_ranksOf_66 : decode prog_10_method_8_code 66 = .ok (.getfield 122, 3) := by decide +kernel
theorem d_St_ranksOf_69 : decode prog_10_method_8_code 69 = .ok (.if_icmp .ge 39, 3) := by decide +kernel
theorem d_St_ranksOf_72 : decode prog_10_method_8_code 72 = .ok (.lload_n 2, 1) := by decide +kernel
theorem d_St_ranksOf_73 : decode prog_10_method_8_code 73 = .ok (.aload_n 0, 1) := by decide +kernel
theorem d_St_ranksOf_74 : decode prog_10_method_8_code 74 = .ok (.getfield 41, 3) := by decide +kernel
theorem d_St_ranksOf_77 : decode prog_10_method_8_code 77 = .ok (.iload 4, 2) := by decide +kernel
theorem d_St_ranksOf_79 : decode prog_10_method_8_code 79 = .ok (.iload_n 1, 1) := by decide +kernel
theorem d_St_ranksOf_80 : decode prog_10_method_8_code 80 = .ok (.invokevirtual 125, 3) := by decide +kernel
theorem d_St_ranksOf_83 : decode prog_10_method_8_code 83 = .ok (.bipush 15, 2) := by decide +kernel
theorem d_St_ranksOf_85 : decode prog_10_method_8_code 85 = .ok (.iand, 1) := by decide +kernel
theorem d_St_ranksOf_86 : decode prog_10_method_8_code 86 = .ok (.i2l, 1) := by decide +kernel
theorem d_St_ranksOf_87 : decode prog_10_method_8_code 87 = .ok (.iconst 5, 1) := by decide +kernel
theorem d_St_ranksOf_88 : decode prog_10_method_8_code 88 = .ok (.aload_n 0, 1) := by decide +kernel
theorem d_St_ranksOf_89 : decode prog_10_method_8_code 89 = .ok (.getfield 37, 3) := by decide +kernel
theorem d_St_ranksOf_92 : decode prog_10_method_8_code 92 = .ok (.getfield 128, 3) := by decide +kernel
theorem d_St_ranksOf_95 : decode prog_10_method_8_code 95 = .ok (.iload 4, 2) := by decide +kernel
theorem d_St_ranksOf_97 : decode prog_10_method_8_code 97 = .ok (.iaload, 1) := by decide +kernel
theorem d_St_ranksOf_98 : decode prog_10_method_8_code 98 = .ok (.imul, 1) := by decide +kernel
theorem d_St_ranksOf_99 : decode prog_10_method_8_code 99 = .ok (.lshl, 1) := by decide +kernel
theorem d_St_ranksOf_100 : decode prog_10_method_8_code 100 = .ok (.lor, 1) := by decide +kernel
theorem d_St_ranksOf_101 : decode prog_10_method_8_code 101 = .ok (.lstore_n 2, 1) := by decide +kernel
theorem d_St_ranksOf_102 : decode prog_10_method_8_code 102 = .ok (.iinc 4 1, 3) := by decide +kernel
theorem d_St_ranksOf_105 : decode prog_10_method_8_code 105 = .ok (.goto (-45), 3) := by decide +kernel
theorem d_St_ranksOf_108 : decode prog_10_method_8_code 108 = .ok (.lload_n 2, 1) := by decide +kernel
theorem d_St_ranksOf_109 : decode prog_10_method_8_code 109 = .ok (.lreturn, 1) := by decide +kernel
theorem d_St_sumOf_0 : decode prog_10_method_9_code 0 = .ok (.iconst 0, 1) := by decide +kernel
theorem d_St_sumOf_1 : decode prog_10_method_9_code 1 = .ok (.istore_n 2, 1) := by decide +kernel
theorem d_St_sumOf_2 : decode prog_10_method_9_code 2 = .ok (.iconst 0, 1) := by decide +kernel
theorem d_St_sumOf_3 : decode prog_10_method_9_code 3 = .ok (.istore_n 3, 1) := by decide +kernel
theorem d_St_sumOf_4 : decode prog_10_method_9_code 4 = .ok (.iload_n 3, 1) := by decide +kernel
theorem d_St_sumOf_5 : decode prog_10_method_9_code 5 = .ok (.bipush 7, 2) := by decide +kernel
theorem d_St_sumOf_7 : decode prog_10_method_9_code 7 = .ok (.if_icmp .ge 21, 3) := by decide +kernel
theorem d_St_sumOf_10 : decode prog_10_method_9_code 10 = .ok (.iload_n 2, 1) := by decide +kernel
theorem d_St_sumOf_11 : decode prog_10_method_9_code 11 = .ok (.lload_n 0, 1) := by decide +kernel
theorem d_St_sumOf_12 : decode prog_10_method_9_code 12 = .ok (.iconst 5, 1) := by decide +kernel
theorem d_St_sumOf_13 : decode prog_10_method_9_code 13 = .ok (.iload_n 3, 1) := by decide +kernel
theorem d_St_sumOf_14 : decode prog_10_method_9_code 14 = .ok (.imul, 1) := by decide +kernel
theorem d_St_sumOf_15 : decode prog_10_method_9_code 15 = .ok (.lushr, 1) := by decide +kernel
theorem d_St_sumOf_16 : decode prog_10_method_9_code 16 = .ok (.l2i, 1) := by decide +kernel
theorem d_St_sumOf_17 : decode prog_10_method_9_code 17 = .ok (.bipush 15, 2) := by decide +kernel
theorem d_St_sumOf_19 : decode prog_10_method_9_code 19 = .ok (.iand, 1) := by decide +kernel
theorem d_St_sumOf_20 : decode prog_10_method_9_code 20 = .ok (.iadd, 1) := by decide +kernel
theorem d_St_sumOf_21 : decode prog_10_method_9_code 21 = .ok (.istore_n 2, 1) := by decide +kernel
theorem d_St_sumOf_22 : decode prog_10_method_9_code 22 = .ok (.iinc 3 1, 3) := by decide +kernel
theorem d_St_sumOf_25 : decode prog_10_method_9_code 25 = .ok (.goto (-21), 3) := by decide +kernel
theorem d_St_sumOf_28 : decode prog_10_method_9_code 28 = .ok (.iload_n 2, 1) := by decide +kernel
theorem d_St_sumOf_29 : decode prog_10_method_9_code 29 = .ok (.ireturn, 1) := by decide +kernel
theorem d_St_sortByRanks_0 : decode prog_10_method_6_code 0 = .ok (.aload_n 0, 1) := by decide +kernel
theorem d_St_sortByRanks_1 : decode prog_10_method_6_code 1 = .ok (.getfield 82, 3) := by decide +kernel
theorem d_St_sortByRanks_4 : decode prog_10_method_6_code 4 = .ok (.ifCond .eq 4, 3) := by decide +kernel
theorem d_St_sortByRanks_7 : decode prog_10_method_6_code 7 = .ok (.return_, 1) := by decide +kernel
theorem d_St_sortByRanks_8 : decode prog_10_method_6_code 8 = .ok (.aload_n 0, 1) := by decide +kernel
theorem d_St_sortByRanks_9 : decode prog_10_method_6_code 9 = .ok (.invokevirtual 94, 3) := by decide +kernel
theorem d_St_sortByRanks_12 : decode prog_10_method_6_code 12 = .ok (.aload_n 0, 1) := by decide +kernel
theorem d_St_sortByRanks_13 : decode prog_10_method_6_code 13 = .ok (.getfield 30, 3) := by decide +kernel
theorem d_St_sortByRanks_16 : decode prog_10_method_6_code 16 = .ok (.iconst 0, 1) := by decide +kernel
theorem d_St_sortByRanks_17 : decode prog_10_method_6_code 17 = .ok (.invokestatic 97, 3) := by decide +kernel
theorem d_St_sortByRanks_20 : decode prog_10_method_6_code 20 = .ok (.iconst 0, 1) := by decide +kernel
theorem d_St_sortByRanks_21 : decode prog_10_method_6_code 21 = .ok (.istore_n 1, 1) := by decide +kernel
theorem d_St_sortByRanks_22 : decode prog_10_method_6_code 22 = .ok (.iload_n 1, 1) := by decide +kernel
theorem d_St_sortByRanks_23 : decode prog_10_method_6_code 23 = .ok (.aload_n 0, 1) := by decide +kernel
theorem d_St_sortByRanks_24 : decode prog_10_method_6_code 24 = .ok (.getfield 79, 3) := by decide +kernel
theorem d_St_sortByRanks_27 : decode prog_10_method_6_code 27 = .ok (.if_icmp .ge 33, 3) := by decide +kernel
theorem d_St_sortByRanks_30 : decode prog_10_method_6_code 30 = .ok (.aload_n 0, 1) := by decide +kernel
theorem d_St_sortByRanks_31 : decode prog_10_method_6_code 31 = .ok (.getfield 30, 3) := by decide +kernel
theorem d_St_sortByRanks_34 : decode prog_10_method_6_code 34 = .ok (.aload_n 0, 1) := by decide +kernel
theorem d_St_sortByRanks_35 : decode prog_10_method_6_code 35 = .ok (.aload_n 0, 1) := by decide +kernel
theorem d_St_sortByRanks_36 : decode prog_10_method_6_code 36 = .ok (.getfield 52, 3) := by decide +kernel
theorem d_St_sortByRanks_39 : decode prog_10_method_6_code 39 = .ok (.iload_n 1, 1) := by decide +kernel
theorem d_St_sortByRanks_40 : decode prog_10_method_6_code 40 = .ok (.iaload, 1) := by decide +kernel
theorem d_St_sortByRanks_41 : decode prog_10_method_6_code 41 = .ok (.invokevirtual 103, 3) := by decide +kernel
theorem d_St_sortByRanks_44 : decode prog_10_method_6_code 44 = .ok (.invokestatic 107, 3) := by decide +kernel
theorem d_St_sortByRanks_47 : decode prog_10_method_6_code 47 = .ok (.iconst 1, 1) := by decide +kernel
theorem d_St_sortByRanks_48 : decode prog_10_method_6_code 48 = .ok (.iadd, 1) := by decide +kernel
theorem d_St_sortByRanks_49 : decode prog_10_method_6_code 49 = .ok (.dup2, 1) := by decide +kernel
theorem d_St_sortByRanks_50 : decode prog_10_method_6_code 50 = .ok (.iaload, 1) := by decide +kernel
theorem d_St_sortByRanks_51 : decode prog_10_method_6_code 51 = .ok (.iconst 1, 1) := by decide +kernel
theorem d_St_sortByRanks_52 : decode prog_10_method_6_code 52 = .ok (.iadd, 1) := by decide +kernel
theorem d_St_sortByRanks_53 : decode prog_10_method_6_code 53 = .ok (.iastore, 1) := by decide +kernel
theorem d_St_sortByRanks_54 : decode prog_10_method_6_code 54 = .ok (.iinc 1 1, 3) := by decide +kernel
theorem d_St_sortByRanks_57 : decode prog_10_method_6_code 57 = .ok (.goto (-35), 3) := by decide +kernel
theorem d_St_sortByRanks_60 : decode prog_10_method_6_code 60 = .ok (.iconst 1, 1) := by decide +kernel
theorem d_St_sortByRanks_61 : decode prog_10_method_6_code 61 = .ok (.istore_n 1, 1) := by decide +kernel
theorem d_St_sortByRanks_62 : decode prog_10_method_6_code 62 = .ok (.iload_n 1, 1) := by decide +kernel
theorem d_St_sortByRanks_63 : decode prog_10_method_6_code 63 = .ok (.sipush 128, 3) := by decide +kernel
theorem d_St_sortByRanks_66 : decode prog_10_method_6_code 66 = .ok (.if_icmp .ge 26, 3) := by decide +kernel
theorem d_St_sortByRanks_69 : decode prog_10_method_6_code 69 = .ok (.aload_n 0, 1) := by decide +kernel
theorem d_St_sortByRanks_70 : decode prog_10_method_6_code 70 = .ok (.getfield 30, 3) := by decide +kernel
theorem d_St_sortByRanks_73 : decode prog_10_method_6_code 73 = .ok (.iload_n 1, 1) := by decide +kernel
theorem d_St_sortByRanks_74 : decode prog_10_method_6_code 74 = .ok (.dup2, 1) := by decide +kernel
theorem d_St_sortByRanks_75 : decode prog_10_method_6_code 75 = .ok (.iaload, 1) := by decide +kernel
theorem d_St_sortByRanks_76 : decode prog_10_method_6_code 76 = .ok (.aload_n 0, 1) := by decide +kernel
theorem d_St_sortByRanks_77 : decode prog_10_method_6_code 77 = .ok (.getfield 30, 3) := by decide +kernel
theorem d_St_sortByRanks_80 : decode prog_10_method_6_code 80 = .ok (.iload_n 1, 1) := by decide +kernel
theorem d_St_sortByRanks_81 : decode prog_10_method_6_code 81 = .ok (.iconst 1, 1) := by decide +kernel
theorem d_St_sortByRanks_82 : decode prog_10_method_6_code 82 = .ok (.isub, 1) := by decide +kernel
theorem d_St_sortByRanks_83 : decode prog_10_method_6_code 83 = .ok (.iaload, 1) := by decide +kernel
theorem d_St_sortByRanks_84 : decode prog_10_method_6_code 84 = .ok (.iadd, 1) := by decide +kernel
theorem d_St_sortByRanks_85 : decode prog_10_method_6_code 85 = .ok (.iastore, 1) := by decide +kernel
theorem d_St_sortByRanks_86 : decode prog_10_method_6_code 86 = .ok (.iinc 1 1, 3) := by decide +kernel
theorem d_St_sortByRanks_89 : decode prog_10_method_6_code 89 = .ok (.goto (-27), 3) := by decide +kernel
theorem d_St_sortByRanks_92 : decode prog_10_method_6_code 92 = .ok (.iconst 0, 1) := by decide +kernel
theorem d_St_sortByRanks_93 : decode prog_10_method_6_code 93 = .ok (.istore_n 1, 1) := by decide +kernel
theorem d_St_sortByRanks_94 : decode prog_10_method_6_code 94 = .ok (.iload_n 1, 1) := by decide +kernel
theorem d_St_sortByRanks_95 : decode prog_10_method_6_code 95 = .ok (.aload_n 0, 1) := by decide +kernel
theorem d_St_sortByRanks_96 : decode prog_10_method_6_code 96 = .ok (.getfield 79, 3) := by decide +kernel
theorem d_St_sortByRanks_99 : decode prog_10_method_6_code 99 = .ok (.if_icmp .ge 63, 3) := by decide +kernel
theorem d_St_sortByRanks_102 : decode prog_10_method_6_code 102 = .ok (.aload_n 0, 1) := by decide +kernel
theorem d_St_sortByRanks_103 : decode prog_10_method_6_code 103 = .ok (.aload_n 0, 1) := by decide +kernel
theorem d_St_sortByRanks_104 : decode prog_10_method_6_code 104 = .ok (.getfield 52, 3) := by decide +kernel
theorem d_St_sortByRanks_107 : decode prog_10_method_6_code 107 = .ok (.iload_n 1, 1) := by decide +kernel
theorem d_St_sortByRanks_108 : decode prog_10_method_6_code 108 = .ok (.iaload, 1) := by decide +kernel
theorem d_St_sortByRanks_109 : decode prog_10_method_6_code 109 = .ok (.invokevirtual 103, 3) := by decide +kernel
theorem d_St_sortByRanks_112 : decode prog_10_method_6_code 112 = .ok (.lstore_n 2, 1) := by decide +kernel
theorem d_St_sortByRanks_113 : decode prog_10_method_6_code 113 = .ok (.lload_n 2, 1) := by decide +kernel
theorem d_St_sortByRanks_114 : decode prog_10_method_6_code 114 = .ok (.invokestatic 107, 3) := by decide +kernel
theorem d_St_sortByRanks_117 : decode prog_10_method_6_code 117 = .ok (.istore 4, 2) := by decide +kernel
theorem d_St_sortByRanks_119 : decode prog_10_method_6_code 119 = .ok (.aload_n 0, 1) := by decide +kernel
theorem d_St_sortByRanks_120 : decode prog_10_method_6_code 120 = .ok (.getfield 17, 3) := by decide +kernel
theorem d_St_sortByRanks_123 : decode prog_10_method_6_code 123 = .ok (.aload_n 0, 1) := by decide +kernel
theorem d_St_sortByRanks_124 : decode prog_10_method_6_code 124 = .ok (.getfield 30, 3) := by decide +kernel
theorem d_St_sortByRanks_127 : decode prog_10_method_6_code 127 = .ok (.iload 4, 2) := by decide +kernel
theorem d_St_sortByRanks_129 : decode prog_10_method_6_code 129 = .ok (.iaload, 1) := by decide +kernel
theorem d_St_sortByRanks_130 : decode prog_10_method_6_code 130 = .ok (.iload_n 1, 1) := by decide +kernel
theorem d_St_sortByRanks_131 : decode prog_10_method_6_code 131 = .ok (.iastore, 1) := by decide +kernel
theorem d_St_sortByRanks_132 : decode prog_10_method_6_code 132 = .ok (.aload_n 0, 1) := by decide +kernel
theorem d_St_sortByRanks_133 : decode prog_10_method_6_code 133 = .ok (.getfield 11, 3) := by decide +kernel
theorem d_St_sortByRanks_136 : decode prog_10_method_6_code 136 = .ok (.aload_n 0, 1) := by decide +kernel
theorem d_St_sortByRanks_137 : decode prog_10_method_6_code 137 = .ok (.getfield 30, 3) := by decide +kernel
theorem d_St_sortByRanks_140 : decode prog_10_method_6_code 140 = .ok (.iload 4, 2) := by decide +kernel
theorem d_St_sortByRanks_142 : decode prog_10_method_6_code 142 = .ok (.iaload, 1) := by decide +kernel
theorem d_St_sortByRanks_143 : decode prog_10_method_6_code 143 = .ok (.lload_n 2, 1) := by decide +kernel
theorem d_St_sortByRanks_144 : decode prog_10_method_6_code 144 = .ok (.lastore, 1) := by decide +kernel
theorem d_St_sortByRanks_145 : decode prog_10_method_6_code 145 = .ok (.aload_n 0, 1) := by decide +kernel
theorem d_St_sortByRanks_146 : decode prog_10_method_6_code 146 = .ok (.getfield 30, 3) := by decide +kernel
theorem d_St_sortByRanks_149 : decode prog_10_method_6_code 149 = .ok (.iload 4, 2) := by decide +kernel
theorem d_St_sortByRanks_151 : decode prog_10_method_6_code 151 = .ok (.dup2, 1) := by decide +kernel
theorem d_St_sortByRanks_152 : decode prog_10_method_6_code 152 = .ok (.iaload, 1) := by decide +kernel
theorem d_St_sortByRanks_153 : decode prog_10_method_6_code 153 = .ok (.iconst 1, 1) := by decide +kernel
theorem d_St_sortByRanks_154 : decode prog_10_method_6_code 154 = .ok (.iadd, 1) := by decide +kernel
theorem d_St_sortByRanks_155 : decode prog_10_method_6_code 155 = .ok (.iastore, 1) := by decide +kernel
theorem d_St_sortByRanks_156 : decode prog_10_method_6_code 156 = .ok (.iinc 1 1, 3) := by decide +kernel
theorem d_St_sortByRanks_159 : decode prog_10_method_6_code 159 = .ok (.goto (-65), 3) := by decide +kernel
theorem d_St_sortByRanks_162 : decode prog_10_method_6_code 162 = .ok (.aload_n 0, 1) := by decide +kernel
theorem d_St_sortByRanks_163 : decode prog_10_method_6_code 163 = .ok (.iconst 1, 1) := by decide +kernel
theorem d_St_sortByRanks_164 : decode prog_10_method_6_code 164 = .ok (.putfield 82, 3) := by decide +kernel
theorem d_St_sortByRanks_167 : decode prog_10_method_6_code 167 = .ok (.return_, 1) := by decide +kernel
theorem d_St_extreme_0 : decode prog_10_method_4_code 0 = .ok (.aload_n 0, 1) := by decide +kernel
theorem d_St_extreme_1 : decode prog_10_method_4_code 1 = .ok (.getfield 79, 3) := by decide +kernel
theorem d_St_extreme_4 : decode prog_10_method_4_code 4 = .ok (.ifCond .ne 5, 3) := by decide +kernel
theorem d_St_extreme_7 : decode prog_10_method_4_code 7 = .ok (.iconst (-1), 1) := by decide +kernel
theorem d_St_extreme_8 : decode prog_10_method_4_code 8 = .ok (.ireturn, 1) := by decide +kernel
theorem d_St_extreme_9 : decode prog_10_method_4_code 9 = .ok (.aload_n 0, 1) := by decide +kernel
theorem d_St_extreme_10 : decode prog_10_method_4_code 10 = .ok (.invokevirtual 85, 3) := by decide +kernel
theorem d_St_extreme_13 : decode prog_10_method_4_code 13 = .ok (.iload_n 1, 1) := by decide +kernel
theorem d_St_extreme_14 : decode prog_10_method_4_code 14 = .ok (.ifCond .eq 7, 3) := by decide +kernel
theorem d_St_extreme_17 : decode prog_10_method_4_code 17 = .ok (.iconst 0, 1) := by decide +kernel
theorem d_St_extreme_18 : decode prog_10_method_4_code 18 = .ok (.goto 9, 3) := by decide +kernel
theorem d_St_extreme_21 : decode prog_10_method_4_code 21 = .ok (.aload_n 0, 1) := by decide +kernel
theorem d_St_extreme_22 : decode prog_10_method_4_code 22 = .ok (.getfield 79, 3) := by decide +kernel
theorem d_St_extreme_25 : decode prog_10_method_4_code 25 = .ok (.iconst 1, 1) := by decide +kernel
theorem d_St_extreme_26 : decode prog_10_method_4_code 26 = .ok (.isub, 1) := by decide +kernel
theorem d_St_extreme_27 : decode prog_10_method_4_code 27 = .ok (.istore_n 2, 1) := by decide +kernel
theorem d_St_extreme_28 : decode prog_10_method_4_code 28 = .ok (.iconst 0, 1) := by decide +kernel
theorem d_St_extreme_29 : decode prog_10_method_4_code 29 = .ok (.istore_n 3, 1) := by decide +kernel
theorem d_St_extreme_30 : decode prog_10_method_4_code 30 = .ok (.iload_n 3, 1) := by decide +kernel
theorem d_St_extreme_31 : decode prog_10_method_4_code 31 = .ok (.aload_n 0, 1) := by decide +kernel
theorem d_St_extreme_32 : decode prog_10_method_4_code 32 = .ok (.getfield 79, 3) := by decide +kernel
theorem d_St_extreme_35 : decode prog_10_method_4_code 35 = .ok (.if_icmp .ge 26, 3) := by decide +kernel
theorem d_St_extreme_38 : decode prog_10_method_4_code 38 = .ok (.iload_n 3, 1) := by decide +kernel
theorem d_St_extreme_39 : decode prog_10_method_4_code 39 = .ok (.iload_n 2, 1) := by decide +kernel
theorem d_St_extreme_40 : decode prog_10_method_4_code 40 = .ok (.if_icmp .eq 15, 3) := by decide +kernel
theorem d_St_extreme_43 : decode prog_10_method_4_code 43 = .ok (.aload_n 0, 1) := by decide +kernel
theorem d_St_extreme_44 : decode prog_10_method_4_code 44 = .ok (.iload_n 2, 1) := by decide +kernel
theorem d_St_extreme_45 : decode prog_10_method_4_code 45 = .ok (.iload_n 3, 1) := by decide +kernel
theorem d_St_extreme_46 : decode prog_10_method_4_code 46 = .ok (.iload_n 1, 1) := by decide +kernel
theorem d_St_extreme_47 : decode prog_10_method_4_code 47 = .ok (.invokevirtual 88, 3) := by decide +kernel
theorem d_St_extreme_50 : decode prog_10_method_4_code 50 = .ok (.ifCond .ne 5, 3) := by decide +kernel
theorem d_St_extreme_53 : decode prog_10_method_4_code 53 = .ok (.iconst (-1), 1) := by decide +kernel
theorem d_St_extreme_54 : decode prog_10_method_4_code 54 = .ok (.ireturn, 1) := by decide +kernel
theorem d_St_extreme_55 : decode prog_10_method_4_code 55 = .ok (.iinc 3 1, 3) := by decide +kernel
theorem d_St_extreme_58 : decode prog_10_method_4_code 58 = .ok (.goto (-28), 3) := by decide +kernel
theorem d_St_extreme_61 : decode prog_10_method_4_code 61 = .ok (.aload_n 0, 1) := by decide +kernel
theorem d_St_extreme_62 : decode prog_10_method_4_code 62 = .ok (.getfield 17, 3) := by decide +kernel
theorem d_St_extreme_65 : decode prog_10_method_4_code 65 = .ok (.iload_n 2, 1) := by decide +kernel
theorem d_St_extreme_66 : decode prog_10_method_4_code 66 = .ok (.iaload, 1) := by decide +kernel
theorem d_St_extreme_67 : decode prog_10_method_4_code 67 = .ok (.ireturn, 1) := by decide +kernel
theorem d_St_placeOf_0 : decode prog_10_method_11_code 0 = .ok (.iconst 0, 1) := by decide +kernel
theorem d_St_placeOf_1 : decode prog_10_method_11_code 1 = .ok (.istore_n 2, 1) := by decide +kernel
theorem d_St_placeOf_2 : decode prog_10_method_11_code 2 = .ok (.iload_n 2, 1) := by decide +kernel
theorem d_St_placeOf_3 : decode prog_10_method_11_code 3 = .ok (.aload_n 0, 1) := by decide +kernel
theorem d_St_placeOf_4 : decode prog_10_method_11_code 4 = .ok (.getfield 79, 3) := by decide +kernel
theorem d_St_placeOf_7 : decode prog_10_method_11_code 7 = .ok (.if_icmp .ge 21, 3) := by decide +kernel
theorem d_St_placeOf_10 : decode prog_10_method_11_code 10 = .ok (.aload_n 0, 1) := by decide +kernel
theorem d_St_placeOf_11 : decode prog_10_method_11_code 11 = .ok (.getfield 17, 3) := by decide +kernel
theorem d_St_placeOf_14 : decode prog_10_method_11_code 14 = .ok (.iload_n 2, 1) := by decide +kernel
theorem d_St_placeOf_15 : decode prog_10_method_11_code 15 = .ok (.iaload, 1) := by decide +kernel
theorem d_St_placeOf_16 : decode prog_10_method_11_code 16 = .ok (.iload_n 1, 1) := by decide +kernel
theorem d_St_placeOf_17 : decode prog_10_method_11_code 17 = .ok (.if_icmp .ne 5, 3) := by decide +kernel
theorem d_St_placeOf_20 : decode prog_10_method_11_code 20 = .ok (.iload_n 2, 1) := by decide +kernel
theorem d_St_placeOf_21 : decode prog_10_method_11_code 21 = .ok (.ireturn, 1) := by decide +kernel
theorem d_St_placeOf_22 : decode prog_10_method_11_code 22 = .ok (.iinc 2 1, 3) := by decide +kernel
theorem d_St_placeOf_25 : decode prog_10_method_11_code 25 = .ok (.goto (-23), 3) := by decide +kernel
theorem d_St_placeOf_28 : decode prog_10_method_11_code 28 = .ok (.iconst 0, 1) := by decide +kernel
theorem d_St_placeOf_29 : decode prog_10_method_11_code 29 = .ok (.ireturn, 1) := by decide +kernel
theorem d_St_reach_0 : decode prog_10_method_12_code 0 = .ok (.aload_n 0, 1) := by decide +kernel
theorem d_St_reach_1 : decode prog_10_method_12_code 1 = .ok (.getfield 21, 3) := by decide +kernel
theorem d_St_reach_4 : decode prog_10_method_12_code 4 = .ok (.iload_n 1, 1) := by decide +kernel
theorem d_St_reach_5 : decode prog_10_method_12_code 5 = .ok (.iaload, 1) := by decide +kernel
theorem d_St_reach_6 : decode prog_10_method_12_code 6 = .ok (.iconst (-1), 1) := by decide +kernel
theorem d_St_reach_7 : decode prog_10_method_12_code 7 = .ok (.if_icmp .ne 42, 3) := by decide +kernel
theorem d_St_reach_10 : decode prog_10_method_12_code 10 = .ok (.aload_n 0, 1) := by decide +kernel
theorem d_St_reach_11 : decode prog_10_method_12_code 11 = .ok (.getfield 131, 3) := by decide +kernel
theorem d_St_reach_14 : decode prog_10_method_12_code 14 = .ok (.aload_n 0, 1) := by decide +kernel
theorem d_St_reach_15 : decode prog_10_method_12_code 15 = .ok (.getfield 24, 3) := by decide +kernel
theorem d_St_reach_18 : decode prog_10_method_12_code 18 = .ok (.arraylength, 1) := by decide +kernel
theorem d_St_reach_19 : decode prog_10_method_12_code 19 = .ok (.if_icmp .ge 30, 3) := by decide +kernel
theorem d_St_reach_22 : decode prog_10_method_12_code 22 = .ok (.aload_n 0, 1) := by decide +kernel
theorem d_St_reach_23 : decode prog_10_method_12_code 23 = .ok (.getfield 21, 3) := by decide +kernel
theorem d_St_reach_26 : decode prog_10_method_12_code 26 = .ok (.iload_n 1, 1) := by decide +kernel
theorem d_St_reach_27 : decode prog_10_method_12_code 27 = .ok (.iload_n 2, 1) := by decide +kernel
theorem d_St_reach_28 : decode prog_10_method_12_code 28 = .ok (.iastore, 1) := by decide +kernel
theorem d_St_reach_29 : decode prog_10_method_12_code 29 = .ok (.aload_n 0, 1) := by decide +kernel
theorem d_St_reach_30 : decode prog_10_method_12_code 30 = .ok (.getfield 24, 3) := by decide +kernel
theorem d_St_reach_33 : decode prog_10_method_12_code 33 = .ok (.aload_n 0, 1) := by decide +kernel
theorem d_St_reach_34 : decode prog_10_method_12_code 34 = .ok (.getfield 131, 3) := by decide +kernel
theorem d_St_reach_37 : decode prog_10_method_12_code 37 = .ok (.iload_n 1, 1) := by decide +kernel
theorem d_St_reach_38 : decode prog_10_method_12_code 38 = .ok (.iastore, 1) := by decide +kernel
theorem d_St_reach_39 : decode prog_10_method_12_code 39 = .ok (.aload_n 0, 1) := by decide +kernel
theorem d_St_reach_40 : decode prog_10_method_12_code 40 = .ok (.dup, 1) := by decide +kernel
theorem d_St_reach_41 : decode prog_10_method_12_code 41 = .ok (.getfield 131, 3) := by decide +kernel
theorem d_St_reach_44 : decode prog_10_method_12_code 44 = .ok (.iconst 1, 1) := by decide +kernel
theorem d_St_reach_45 : decode prog_10_method_12_code 45 = .ok (.iadd, 1) := by decide +kernel
theorem d_St_reach_46 : decode prog_10_method_12_code 46 = .ok (.putfield 131, 3) := by decide +kernel
theorem d_St_reach_49 : decode prog_10_method_12_code 49 = .ok (.return_, 1) := by decide +kernel
theorem d_St_isBeyondAny_0 : decode prog_10_method_14_code 0 = .ok (.iconst 0, 1) := by decide +kernel
theorem d_St_isBeyondAny_1 : decode prog_10_method_14_code 1 = .ok (.istore 4, 2) := by decide +kernel
theorem d_St_isBeyondAny_3 : decode prog_10_method_14_code 3 = .ok (.iload 4, 2) := by decide +kernel
theorem d_St_isBeyondAny_5 : decode prog_10_method_14_code 5 = .ok (.iload_n 2, 1) := by decide +kernel
theorem d_St_isBeyondAny_6 : decode prog_10_method_14_code 6 = .ok (.if_icmp .ge 27, 3) := by decide +kernel
theorem d_St_isBeyondAny_9 : decode prog_10_method_14_code 9 = .ok (.aload_n 0, 1) := by decide +kernel
theorem d_St_isBeyondAny_10 : decode prog_10_method_14_code 10 = .ok (.iload_n 1, 1) := by decide +kernel
theorem d_St_isBeyondAny_11 : decode prog_10_method_14_code 11 = .ok (.aload_n 0, 1) := by decide +kernel
theorem d_St_isBeyondAny_12 : decode prog_10_method_14_code 12 = .ok (.getfield 27, 3) := by decide +kernel
theorem d_St_isBeyondAny_15 : decode prog_10_method_14_code 15 = .ok (.iload 4, 2) := by decide +kernel
theorem d_St_isBeyondAny_17 : decode prog_10_method_14_code 17 = .ok (.iaload, 1) := by decide +kernel
theorem d_St_isBeyondAny_18 : decode prog_10_method_14_code 18 = .ok (.iload_n 3, 1) := by decide +kernel
theorem d_St_isBeyondAny_19 : decode prog_10_method_14_code 19 = .ok (.invokevirtual 88, 3) := by decide +kernel
theorem d_St_isBeyondAny_22 : decode prog_10_method_14_code 22 = .ok (.ifCond .eq 5, 3) := by decide +kernel
theorem d_St_isBeyondAny_25 : decode prog_10_method_14_code 25 = .ok (.iconst 1, 1) := by decide +kernel
theorem d_St_isBeyondAny_26 : decode prog_10_method_14_code 26 = .ok (.ireturn, 1) := by decide +kernel
theorem d_St_isBeyondAny_27 : decode prog_10_method_14_code 27 = .ok (.iinc 4 1, 3) := by decide +kernel
theorem d_St_isBeyondAny_30 : decode prog_10_method_14_code 30 = .ok (.goto (-27), 3) := by decide +kernel
theorem d_St_isBeyondAny_33 : decode prog_10_method_14_code 33 = .ok (.iconst 0, 1) := by decide +kernel
theorem d_St_isBeyondAny_34 : decode prog_10_method_14_code 34 = .ok (.ireturn, 1) := by decide +kernel
theorem d_St_reachNext_0 : decode prog_10_method_13_code 0 = .ok (.iload_n 2, 1) := by decide +kernel
theorem d_St_reachNext_1 : decode prog_10_method_13_code 1 = .ok (.ifCond .eq 7, 3) := by decide +kernel
theorem d_St_reachNext_4 : decode prog_10_method_13_code 4 = .ok (.iconst (-1), 1) := by decide +kernel
theorem d_St_reachNext_5 : decode prog_10_method_13_code 5 = .ok (.goto 4, 3) := by decide +kernel
theorem d_St_reachNext_8 : decode prog_10_method_13_code 8 = .ok (.iconst 1, 1) := by decide +kernel
theorem d_St_reachNext_9 : decode prog_10_method_13_code 9 = .ok (.istore_n 3, 1) := by decide +kernel
theorem d_St_reachNext_10 : decode prog_10_method_13_code 10 = .ok (.aload_n 0, 1) := by decide +kernel
theorem d_St_reachNext_11 : decode prog_10_method_13_code 11 = .ok (.getfield 11, 3) := by decide +kernel
theorem d_St_reachNext_14 : decode prog_10_method_13_code 14 = .ok (.iload_n 1, 1) := by decide +kernel
theorem d_St_reachNext_15 : decode prog_10_method_13_code 15 = .ok (.laload, 1) := by decide +kernel
theorem d_St_reachNext_16 : decode prog_10_method_13_code 16 = .ok (.lstore 4, 2) := by decide +kernel
theorem d_St_reachNext_18 : decode prog_10_method_13_code 18 = .ok (.iconst 0, 1) := by decide +kernel
theorem d_St_reachNext_19 : decode prog_10_method_13_code 19 = .ok (.istore 6, 2) := by decide +kernel
theorem d_St_reachNext_21 : decode prog_10_method_13_code 21 = .ok (.iload_n 1, 1) := by decide +kernel
theorem d_St_reachNext_22 : decode prog_10_method_13_code 22 = .ok (.iload_n 3, 1) := by decide +kernel
theorem d_St_reachNext_23 : decode prog_10_method_13_code 23 = .ok (.iadd, 1) := by decide +kernel
theorem d_St_reachNext_24 : decode prog_10_method_13_code 24 = .ok (.istore 7, 2) := by decide +kernel
theorem d_St_reachNext_26 : decode prog_10_method_13_code 26 = .ok (.iload 7, 2) := by decide +kernel
theorem d_St_reachNext_28 : decode prog_10_method_13_code 28 = .ok (.ifCond .lt 109, 3) := by decide +kernel
theorem d_St_reachNext_31 : decode prog_10_method_13_code 31 = .ok (.iload 7, 2) := by decide +kernel
theorem d_St_reachNext_33 : decode prog_10_method_13_code 33 = .ok (.aload_n 0, 1) := by decide +kernel
theorem d_St_reachNext_34 : decode prog_10_method_13_code 34 = .ok (.getfield 79, 3) := by decide +kernel
theorem d_St_reachNext_37 : decode prog_10_method_13_code 37 = .ok (.if_icmp .ge 100, 3) := by decide +kernel
theorem d_St_reachNext_40 : decode prog_10_method_13_code 40 = .ok (.iload_n 2, 1) := by decide +kernel
theorem d_St_reachNext_41 : decode prog_10_method_13_code 41 = .ok (.ifCond .eq 20, 3) := by decide +kernel
theorem d_St_reachNext_44 : decode prog_10_method_13_code 44 = .ok (.lload 4, 2) := by decide +kernel
theorem d_St_reachNext_46 : decode prog_10_method_13_code 46 = .ok (.ldc2_w 92, 3) := by decide +kernel
theorem d_St_reachNext_49 : decode prog_10_method_13_code 49 = .ok (.lor, 1) := by decide +kernel
theorem d_St_reachNext_50 : decode prog_10_method_13_code 50 = .ok (.aload_n 0, 1) := by decide +kernel
theorem d_St_reachNext_51 : decode prog_10_method_13_code 51 = .ok (.getfield 11, 3) := by decide +kernel
theorem d_St_reachNext_54 : decode prog_10_method_13_code 54 = .ok (.iload 7, 2) := by decide +kernel
theorem d_St_reachNext_56 : decode prog_10_method_13_code 56 = .ok (.laload, 1) := by decide +kernel
theorem d_St_reachNext_57 : decode prog_10_method_13_code 57 = .ok (.lsub, 1) := by decide +kernel
theorem d_St_reachNext_58 : decode prog_10_method_13_code 58 = .ok (.goto 17, 3) := by decide +kernel
theorem d_St_reachNext_61 : decode prog_10_method_13_code 61 = .ok (.aload_n 0, 1) := by decide +kernel
theorem d_St_reachNext_62 : decode prog_10_method_13_code 62 = .ok (.getfield 11, 3) := by decide +kernel
theorem d_St_reachNext_65 : decode prog_10_method_13_code 65 = .ok (.iload 7, 2) := by decide +kernel
theorem d_St_reachNext_67 : decode prog_10_method_13_code 67 = .ok (.laload, 1) := by decide +kernel
theorem d_St_reachNext_68 : decode prog_10_method_13_code 68 = .ok (.ldc2_w 92, 3) := by decide +kernel
theorem d_St_reachNext_71 : decode prog_10_method_13_code 71 = .ok (.lor, 1) := by decide +kernel
theorem d_St_reachNext_72 : decode prog_10_method_13_code 72 = .ok (.lload 4, 2) := by decide +kernel
theorem d_St_reachNext_74 : decode prog_10_method_13_code 74 = .ok (.lsub, 1) := by decide +kernel
theorem d_St_reachNext_75 : decode prog_10_method_13_code 75 = .ok (.lstore 8, 2) := by decide +kernel
theorem d_St_reachNext_77 : decode prog_10_method_13_code 77 = .ok (.lload 8, 2) := by decide +kernel
theorem d_St_reachNext_79 : decode prog_10_method_13_code 79 = .ok (.ldc2_w 92, 3) := by decide +kernel
theorem d_St_reachNext_82 : decode prog_10_method_13_code 82 = .ok (.land, 1) := by decide +kernel
theorem d_St_reachNext_83 : decode prog_10_method_13_code 83 = .ok (.ldc2_w 92, 3) := by decide +kernel
theorem d_St_reachNext_86 : decode prog_10_method_13_code 86 = .ok (.lcmp, 1) := by decide +kernel
theorem d_St_reachNext_87 : decode prog_10_method_13_code 87 = .ok (.ifCond .ne 41, 3) := by decide +kernel
theorem d_St_reachNext_90 : decode prog_10_method_13_code 90 = .ok (.aload_n 0, 1) := by decide +kernel
theorem d_St_reachNext_91 : decode prog_10_method_13_code 91 = .ok (.iload 7, 2) := by decide +kernel
theorem d_St_reachNext_93 : decode prog_10_method_13_code 93 = .ok (.iload 6, 2) := by decide +kernel
theorem d_St_reachNext_95 : decode prog_10_method_13_code 95 = .ok (.iload_n 2, 1) := by decide +kernel
theorem d_St_reachNext_96 : decode prog_10_method_13_code 96 = .ok (.invokevirtual 146, 3) := by decide +kernel
theorem d_St_reachNext_99 : decode prog_10_method_13_code 99 = .ok (.ifCond .ne 29, 3) := by decide +kernel
theorem d_St_reachNext_102 : decode prog_10_method_13_code 102 = .ok (.aload_n 0, 1) := by decide +kernel
theorem d_St_reachNext_103 : decode prog_10_method_13_code 103 = .ok (.getfield 27, 3) := by decide +kernel
theorem d_St_reachNext_106 : decode prog_10_method_13_code 106 = .ok (.iload 6, 2) := by decide +kernel
theorem d_St_reachNext_108 : decode prog_10_method_13_code 108 = .ok (.iload 7, 2) := by decide +kernel
theorem d_St_reachNext_110 : decode prog_10_method_13_code 110 = .ok (.iastore, 1) := by decide +kernel
theorem d_St_reachNext_111 : decode prog_10_method_13_code 111 = .ok (.iinc 6 1, 3) := by decide +kernel
theorem d_St_reachNext_114 : decode prog_10_method_13_code 114 = .ok (.aload_n 0, 1) := by decide +kernel
theorem d_St_reachNext_115 : decode prog_10_method_13_code 115 = .ok (.iload 7, 2) := by decide +kernel
theorem d_St_reachNext_117 : decode prog_10_method_13_code 117 = .ok (.aload_n 0, 1) := by decide +kernel
theorem d_St_reachNext_118 : decode prog_10_method_13_code 118 = .ok (.getfield 21, 3) := by decide +kernel
theorem d_St_reachNext_121 : decode prog_10_method_13_code 121 = .ok (.iload_n 1, 1) := by decide +kernel
theorem d_St_reachNext_122 : decode prog_10_method_13_code 122 = .ok (.iaload, 1) := by decide +kernel
theorem d_St_reachNext_123 : decode prog_10_method_13_code 123 = .ok (.iconst 1, 1) := by decide +kernel
theorem d_St_reachNext_124 : decode prog_10_method_13_code 124 = .ok (.iadd, 1) := by decide +kernel
theorem d_St_reachNext_125 : decode prog_10_method_13_code 125 = .ok (.invokevirtual 138, 3) := by decide +kernel
theorem d_St_reachNext_128 : decode prog_10_method_13_code 128 = .ok (.iload 7, 2) := by decide +kernel
theorem d_St_reachNext_130 : decode prog_10_method_13_code 130 = .ok (.iload_n 3, 1) := by decide +kernel
theorem d_St_reachNext_131 : decode prog_10_method_13_code 131 = .ok (.iadd, 1) := by decide +kernel
theorem d_St_reachNext_132 : decode prog_10_method_13_code 132 = .ok (.istore 7, 2) := by decide +kernel
theorem d_St_reachNext_134 : decode prog_10_method_13_code 134 = .ok (.goto (-108), 3) := by decide +kernel
theorem d_St_reachNext_137 : decode prog_10_method_13_code 137 = .ok (.return_, 1) := by decide +kernel
theorem d_St_distance_0 : decode prog_10_method_10_code 0 = .ok (.aload_n 0, 1) := by decide +kernel
theorem d_St_distance_1 : decode prog_10_method_10_code 1 = .ok (.invokevirtual 85, 3) := by decide +kernel
theorem d_St_distance_4 : decode prog_10_method_10_code 4 = .ok (.aload_n 0, 1) := by decide +kernel
theorem d_St_distance_5 : decode prog_10_method_10_code 5 = .ok (.getfield 21, 3) := by decide +kernel
theorem d_St_distance_8 : decode prog_10_method_10_code 8 = .ok (.iconst (-1), 1) := by decide +kernel
theorem d_St_distance_9 : decode prog_10_method_10_code 9 = .ok (.invokestatic 97, 3) := by decide +kernel
theorem d_St_distance_12 : decode prog_10_method_10_code 12 = .ok (.aload_n 0, 1) := by decide +kernel
theorem d_St_distance_13 : decode prog_10_method_10_code 13 = .ok (.iconst 0, 1) := by decide +kernel
theorem d_St_distance_14 : decode prog_10_method_10_code 14 = .ok (.putfield 131, 3) := by decide +kernel
theorem d_St_distance_17 : decode prog_10_method_10_code 17 = .ok (.aload_n 0, 1) := by decide +kernel
theorem d_St_distance_18 : decode prog_10_method_10_code 18 = .ok (.iload_n 2, 1) := by decide +kernel
theorem d_St_distance_19 : decode prog_10_method_10_code 19 = .ok (.invokevirtual 134, 3) := by decide +kernel
theorem d_St_distance_22 : decode prog_10_method_10_code 22 = .ok (.istore_n 3, 1) := by decide +kernel
theorem d_St_distance_23 : decode prog_10_method_10_code 23 = .ok (.aload_n 0, 1) := by decide +kernel
theorem d_St_distance_24 : decode prog_10_method_10_code 24 = .ok (.aload_n 0, 1) := by decide +kernel
theorem d_St_distance_25 : decode prog_10_method_10_code 25 = .ok (.iload_n 1, 1) := by decide +kernel
theorem d_St_distance_26 : decode prog_10_method_10_code 26 = .ok (.invokevirtual 134, 3) := by decide +kernel
theorem d_St_distance_29 : decode prog_10_method_10_code 29 = .ok (.iconst 0, 1) := by decide +kernel
theorem d_St_distance_30 : decode prog_10_method_10_code 30 = .ok (.invokevirtual 138, 3) := by decide +kernel
theorem d_St_distance_33 : decode prog_10_method_10_code 33 = .ok (.iconst 0, 1) := by decide +kernel
theorem d_St_distance_34 : decode prog_10_method_10_code 34 = .ok (.istore 4, 2) := by decide +kernel
theorem d_St_distance_36 : decode prog_10_method_10_code 36 = .ok (.iload 4, 2) := by decide +kernel
theorem d_St_distance_38 : decode prog_10_method_10_code 38 = .ok (.aload_n 0, 1) := by decide +kernel
theorem d_St_distance_39 : decode prog_10_method_10_code 39 = .ok (.getfield 79, 3) := by decide +kernel
theorem d_St_distance_42 : decode prog_10_method_10_code 42 = .ok (.if_icmp .ge 52, 3) := by decide +kernel
theorem d_St_distance_45 : decode prog_10_method_10_code 45 = .ok (.iload 4, 2) := by decide +kernel
theorem d_St_distance_47 : decode prog_10_method_10_code 47 = .ok (.aload_n 0, 1) := by decide +kernel
theorem d_St_distance_48 : decode prog_10_method_10_code 48 = .ok (.getfield 131, 3) := by decide +kernel
theorem d_St_distance_51 : decode prog_10_method_10_code 51 = .ok (.if_icmp .ge 43, 3) := by decide +kernel
theorem d_St_distance_54 : decode prog_10_method_10_code 54 = .ok (.aload_n 0, 1) := by decide +kernel
theorem d_St_distance_55 : decode prog_10_method_10_code 55 = .ok (.getfield 21, 3) := by decide +kernel
theorem d_St_distance_58 : decode prog_10_method_10_code 58 = .ok (.iload_n 3, 1) := by decide +kernel
theorem d_St_distance_59 : decode prog_10_method_10_code 59 = .ok (.iaload, 1) := by decide +kernel
theorem d_St_distance_60 : decode prog_10_method_10_code 60 = .ok (.iconst (-1), 1) := by decide +kernel
theorem d_St_distance_61 : decode prog_10_method_10_code 61 = .ok (.if_icmp .ne 33, 3) := by decide +kernel
theorem d_St_distance_64 : decode prog_10_method_10_code 64 = .ok (.aload_n 0, 1) := by decide +kernel
theorem d_St_distance_65 : decode prog_10_method_10_code 65 = .ok (.aload_n 0, 1) := by decide +kernel
theorem d_St_distance_66 : decode prog_10_method_10_code 66 = .ok (.getfield 24, 3) := by decide +kernel
theorem d_St_distance_69 : decode prog_10_method_10_code 69 = .ok (.iload 4, 2) := by decide +kernel
theorem d_St_distance_71 : decode prog_10_method_10_code 71 = .ok (.iaload, 1) := by decide +kernel
theorem d_St_distance_72 : decode prog_10_method_10_code 72 = .ok (.iconst 1, 1) := by decide +kernel
theorem d_St_distance_73 : decode prog_10_method_10_code 73 = .ok (.invokevirtual 142, 3) := by decide +kernel
theorem d_St_distance_76 : decode prog_10_method_10_code 76 = .ok (.aload_n 0, 1) := by decide +kernel
theorem d_St_distance_77 : decode prog_10_method_10_code 77 = .ok (.aload_n 0, 1) := by decide +kernel
theorem d_St_distance_78 : decode prog_10_method_10_code 78 = .ok (.getfield 24, 3) := by decide +kernel
theorem d_St_distance_81 : decode prog_10_method_10_code 81 = .ok (.iload 4, 2) := by decide +kernel
theorem d_St_distance_83 : decode prog_10_method_10_code 83 = .ok (.iaload, 1) := by decide +kernel
theorem d_St_distance_84 : decode prog_10_method_10_code 84 = .ok (.iconst 0, 1) := by decide +kernel
theorem d_St_distance_85 : decode prog_10_method_10_code 85 = .ok (.invokevirtual 142, 3) := by decide +kernel
theorem d_St_distance_88 : decode prog_10_method_10_code 88 = .ok (.iinc 4 1, 3) := by decide +kernel
theorem d_St_distance_91 : decode prog_10_method_10_code 91 = .ok (.goto (-55), 3) := by decide +kernel
theorem d_St_distance_94 : decode prog_10_method_10_code 94 = .ok (.aload_n 0, 1) := by decide +kernel
theorem d_St_distance_95 : decode prog_10_method_10_code 95 = .ok (.getfield 21, 3) := by decide +kernel
theorem d_St_distance_98 : decode prog_10_method_10_code 98 = .ok (.iload_n 3, 1) := by decide +kernel
theorem d_St_distance_99 : decode prog_10_method_10_code 99 = .ok (.iaload, 1) := by decide +kernel
theorem d_St_distance_100 : decode prog_10_method_10_code 100 = .ok (.ireturn, 1) := by decide +kernel
theorem d_St_indexOf_0 : decode prog_10_method_3_code 0 = .ok (.iconst 0, 1) := by decide +kernel
theorem d_St_indexOf_1 : decode prog_10_method_3_code 1 = .ok (.istore_n 2, 1) := by decide +kernel
theorem d_St_indexOf_2 : decode prog_10_method_3_code 2 = .ok (.iload_n 2, 1) := by decide +kernel
theorem d_St_indexOf_3 : decode prog_10_method_3_code 3 = .ok (.aload_n 0, 1) := by decide +kernel
theorem d_St_indexOf_4 : decode prog_10_method_3_code 4 = .ok (.getfield 79, 3) := by decide +kernel
theorem d_St_indexOf_7 : decode prog_10_method_3_code 7 = .ok (.if_icmp .ge 21, 3) := by decide +kernel
theorem d_St_indexOf_10 : decode prog_10_method_3_code 10 = .ok (.aload_n 0, 1) := by decide +kernel
theorem d_St_indexOf_11 : decode prog_10_method_3_code 11 = .ok (.getfield 52, 3) := by decide +kernel
theorem d_St_indexOf_14 : decode prog_10_method_3_code 14 = .ok (.iload_n 2, 1) := by decide +kernel
theorem d_St_indexOf_15 : decode prog_10_method_3_code 15 = .ok (.iaload, 1) := by decide +kernel
theorem d_St_indexOf_16 : decode prog_10_method_3_code 16 = .ok (.iload_n 1, 1) := by decide +kernel
theorem d_St_indexOf_17 : decode prog_10_method_3_code 17 = .ok (.if_icmp .ne 5, 3) := by decide +kernel
theorem d_St_indexOf_20 : decode prog_10_method_3_code 20 = .ok (.iload_n 2, 1) := by decide +kernel
theorem d_St_indexOf_21 : decode prog_10_method_3_code 21 = .ok (.ireturn, 1) := by decide +kernel
theorem d_St_indexOf_22 : decode prog_10_method_3_code 22 = .ok (.iinc 2 1, 3) := by decide +kernel
theorem d_St_indexOf_25 : decode prog_10_method_3_code 25 = .ok (.goto (-23), 3) := by decide +kernel
theorem d_St_indexOf_28 : decode prog_10_method_3_code 28 = .ok (.iconst (-1), 1) := by decide +kernel
theorem d_St_indexOf_29 : decode prog_10_method_3_code 29 = .ok (.ireturn, 1) := by decide +kernel
theorem d_St_midst_0 : decode prog_10_method_15_code 0 = .ok (.aload_n 0, 1) := by decide +kernel
theorem d_St_midst_1 : decode prog_10_method_15_code 1 = .ok (.getfield 30, 3) := by decide +kernel
theorem d_St_midst_4 : decode prog_10_method_15_code 4 = .ok (.iconst 0, 1) := by decide +kernel
theorem d_St_midst_5 : decode prog_10_method_15_code 5 = .ok (.invokestatic 97, 3) := by decide +kernel
theorem d_St_midst_8 : decode prog_10_method_15_code 8 = .ok (.iconst 0, 1) := by decide +kernel
theorem d_St_midst_9 : decode prog_10_method_15_code 9 = .ok (.istore_n 2, 1) := by decide +kernel
theorem d_St_midst_10 : decode prog_10_method_15_code 10 = .ok (.iload_n 2, 1) := by decide +kernel
theorem d_St_midst_11 : decode prog_10_method_15_code 11 = .ok (.aload_n 0, 1) := by decide +kernel
theorem d_St_midst_12 : decode prog_10_method_15_code 12 = .ok (.getfield 79, 3) := by decide +kernel
theorem d_St_midst_15 : decode prog_10_method_15_code 15 = .ok (.if_icmp .ge 35, 3) := by decide +kernel
theorem d_St_midst_18 : decode prog_10_method_15_code 18 = .ok (.aload_n 0, 1) := by decide +kernel
theorem d_St_midst_19 : decode prog_10_method_15_code 19 = .ok (.getfield 30, 3) := by decide +kernel
theorem d_St_midst_22 : decode prog_10_method_15_code 22 = .ok (.aload_n 0, 1) := by decide +kernel
theorem d_St_midst_23 : decode prog_10_method_15_code 23 = .ok (.getfield 41, 3) := by decide +kernel
theorem d_St_midst_26 : decode prog_10_method_15_code 26 = .ok (.iload_n 1, 1) := by decide +kernel
theorem d_St_midst_27 : decode prog_10_method_15_code 27 = .ok (.aload_n 0, 1) := by decide +kernel
theorem d_St_midst_28 : decode prog_10_method_15_code 28 = .ok (.getfield 52, 3) := by decide +kernel
theorem d_St_midst_31 : decode prog_10_method_15_code 31 = .ok (.iload_n 2, 1) := by decide +kernel
theorem d_St_midst_32 : decode prog_10_method_15_code 32 = .ok (.iaload, 1) := by decide +kernel
theorem d_St_midst_33 : decode prog_10_method_15_code 33 = .ok (.invokevirtual 118, 3) := by decide +kernel
theorem d_St_midst_36 : decode prog_10_method_15_code 36 = .ok (.bipush 15, 2) := by decide +kernel
theorem d_St_midst_38 : decode prog_10_method_15_code 38 = .ok (.iand, 1) := by decide +kernel
theorem d_St_midst_39 : decode prog_10_method_15_code 39 = .ok (.dup2, 1) := by decide +kernel
theorem d_St_midst_40 : decode prog_10_method_15_code 40 = .ok (.iaload, 1) := by decide +kernel
theorem d_St_midst_41 : decode prog_10_method_15_code 41 = .ok (.iconst 1, 1) := by decide +kernel
theorem d_St_midst_42 : decode prog_10_method_15_code 42 = .ok (.iadd, 1) := by decide +kernel
theorem d_St_midst_43 : decode prog_10_method_15_code 43 = .ok (.iastore, 1) := by decide +kernel
theorem d_St_midst_44 : decode prog_10_method_15_code 44 = .ok (.iinc 2 1, 3) := by decide +kernel
theorem d_St_midst_47 : decode prog_10_method_15_code 47 = .ok (.goto (-37), 3) := by decide +kernel
theorem d_St_midst_50 : decode prog_10_method_15_code 50 = .ok (.iconst 0, 1) := by decide +kernel
theorem d_St_midst_51 : decode prog_10_method_15_code 51 = .ok (.istore_n 2, 1) := by decide +kernel
theorem d_St_midst_52 : decode prog_10_method_15_code 52 = .ok (.iconst 0, 1) := by decide +kernel
theorem d_St_midst_53 : decode prog_10_method_15_code 53 = .ok (.istore_n 3, 1) := by decide +kernel
theorem d_St_midst_54 : decode prog_10_method_15_code 54 = .ok (.iload_n 3, 1) := by decide +kernel
theorem d_St_midst_55 : decode prog_10_method_15_code 55 = .ok (.aload_n 0, 1) := by decide +kernel
theorem d_St_midst_56 : decode prog_10_method_15_code 56 = .ok (.getfield 33, 3) := by decide +kernel
theorem d_St_midst_59 : decode prog_10_method_15_code 59 = .ok (.getfield 149, 3) := by decide +kernel
theorem d_St_midst_62 : decode prog_10_method_15_code 62 = .ok (.iload_n 1, 1) := by decide +kernel
theorem d_St_midst_63 : decode prog_10_method_15_code 63 = .ok (.iaload, 1) := by decide +kernel
theorem d_St_midst_64 : decode prog_10_method_15_code 64 = .ok (.if_icmp .ge 46, 3) := by decide +kernel
theorem d_St_midst_67 : decode prog_10_method_15_code 67 = .ok (.iload_n 2, 1) := by decide +kernel
theorem d_St_midst_68 : decode prog_10_method_15_code 68 = .ok (.aload_n 0, 1) := by decide +kernel
theorem d_St_midst_69 : decode prog_10_method_15_code 69 = .ok (.getfield 30, 3) := by decide +kernel
theorem d_St_midst_72 : decode prog_10_method_15_code 72 = .ok (.iload_n 3, 1) := by decide +kernel
theorem d_St_midst_73 : decode prog_10_method_15_code 73 = .ok (.iaload, 1) := by decide +kernel
theorem d_St_midst_74 : decode prog_10_method_15_code 74 = .ok (.iadd, 1) := by decide +kernel
theorem d_St_midst_75 : decode prog_10_method_15_code 75 = .ok (.istore_n 2, 1) := by decide +kernel
theorem d_St_midst_76 : decode prog_10_method_15_code 76 = .ok (.iload_n 2, 1) := by decide +kernel
theorem d_St_midst_77 : decode prog_10_method_15_code 77 = .ok (.aload_n 0, 1) := by decide +kernel
theorem d_St_midst_78 : decode prog_10_method_15_code 78 = .ok (.getfield 79, 3) := by decide +kernel
theorem d_St_midst_81 : decode prog_10_method_15_code 81 = .ok (.iconst 1, 1) := by decide +kernel
theorem d_St_midst_82 : decode prog_10_method_15_code 82 = .ok (.isub, 1) := by decide +kernel
theorem d_St_midst_83 : decode prog_10_method_15_code 83 = .ok (.iconst 2, 1) := by decide +kernel
theorem d_St_midst_84 : decode prog_10_method_15_code 84 = .ok (.idiv, 1) := by decide +kernel
theorem d_St_midst_85 : decode prog_10_method_15_code 85 = .ok (.if_icmp .le 19, 3) := by decide +kernel
theorem d_St_midst_88 : decode prog_10_method_15_code 88 = .ok (.iconst 1, 1) := by decide +kernel
theorem d_St_midst_89 : decode prog_10_method_15_code 89 = .ok (.aload_n 0, 1) := by decide +kernel
theorem d_St_midst_90 : decode prog_10_method_15_code 90 = .ok (.getfield 33, 3) := by decide +kernel
theorem d_St_midst_93 : decode prog_10_method_15_code 93 = .ok (.getfield 152, 3) := by decide +kernel
theorem d_St_midst_96 : decode prog_10_method_15_code 96 = .ok (.iload_n 1, 1) := by decide +kernel
theorem d_St_midst_97 : decode prog_10_method_15_code 97 = .ok (.iconst 5, 1) := by decide +kernel
theorem d_St_midst_98 : decode prog_10_method_15_code 98 = .ok (.imul, 1) := by decide +kernel
theorem d_St_midst_99 : decode prog_10_method_15_code 99 = .ok (.iload_n 3, 1) := by decide +kernel
theorem d_St_midst_100 : decode prog_10_method_15_code 100 = .ok (.iadd, 1) := by decide +kernel
theorem d_St_midst_101 : decode prog_10_method_15_code 101 = .ok (.iaload, 1) := by decide +kernel
theorem d_St_midst_102 : decode prog_10_method_15_code 102 = .ok (.ishl, 1) := by decide +kernel
theorem d_St_midst_103 : decode prog_10_method_15_code 103 = .ok (.ireturn, 1) := by decide +kernel
theorem d_St_midst_104 : decode prog_10_method_15_code 104 = .ok (.iinc 3 1, 3) := by decide +kernel
theorem d_St_midst_107 : decode prog_10_method_15_code 107 = .ok (.goto (-53), 3) := by decide +kernel
theorem d_St_midst_110 : decode prog_10_method_15_code 110 = .ok (.iconst 0, 1) := by decide +kernel
theorem d_St_midst_111 : decode prog_10_method_15_code 111 = .ok (.ireturn, 1) := by decide +kernel
