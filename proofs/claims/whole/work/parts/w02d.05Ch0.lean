theorem d_Ch_init_0 : decode prog_3_method_1_code 0 = .ok (.aload_n 0, 1) := by decide +kernel
theorem d_Ch_init_1 : decode prog_3_method_1_code 1 = .ok (.invokespecial 1, 3) := by decide +kernel
theorem d_Ch_init_4 : decode prog_3_method_1_code 4 = .ok (.aload_n 0, 1) := by decide +kernel
theorem d_Ch_init_5 : decode prog_3_method_1_code 5 = .ok (.bipush 8, 2) := by decide +kernel
theorem d_Ch_init_7 : decode prog_3_method_1_code 7 = .ok (.putfield 9, 3) := by decide +kernel
theorem d_Ch_init_10 : decode prog_3_method_1_code 10 = .ok (.aload_n 0, 1) := by decide +kernel
theorem d_Ch_init_11 : decode prog_3_method_1_code 11 = .ok (.ldc 13, 2) := by decide +kernel
theorem d_Ch_init_13 : decode prog_3_method_1_code 13 = .ok (.putfield 14, 3) := by decide +kernel
theorem d_Ch_init_16 : decode prog_3_method_1_code 16 = .ok (.aload_n 0, 1) := by decide +kernel
theorem d_Ch_init_17 : decode prog_3_method_1_code 17 = .ok (.iconst 5, 1) := by decide +kernel
theorem d_Ch_init_18 : decode prog_3_method_1_code 18 = .ok (.newarray .int, 2) := by decide +kernel
theorem d_Ch_init_20 : decode prog_3_method_1_code 20 = .ok (.putfield 17, 3) := by decide +kernel
theorem d_Ch_init_23 : decode prog_3_method_1_code 23 = .ok (.aload_n 0, 1) := by decide +kernel
theorem d_Ch_init_24 : decode prog_3_method_1_code 24 = .ok (.iconst 5, 1) := by decide +kernel
theorem d_Ch_init_25 : decode prog_3_method_1_code 25 = .ok (.newarray .int, 2) := by decide +kernel
theorem d_Ch_init_27 : decode prog_3_method_1_code 27 = .ok (.putfield 21, 3) := by decide +kernel
theorem d_Ch_init_30 : decode prog_3_method_1_code 30 = .ok (.aload_n 0, 1) := by decide +kernel
theorem d_Ch_init_31 : decode prog_3_method_1_code 31 = .ok (.iconst 4, 1) := by decide +kernel
theorem d_Ch_init_32 : decode prog_3_method_1_code 32 = .ok (.newarray .int, 2) := by decide +kernel
theorem d_Ch_init_34 : decode prog_3_method_1_code 34 = .ok (.putfield 26, 3) := by decide +kernel
theorem d_Ch_init_37 : decode prog_3_method_1_code 37 = .ok (.aload_n 0, 1) := by decide +kernel
theorem d_Ch_init_38 : decode prog_3_method_1_code 38 = .ok (.bipush 7, 2) := by decide +kernel
theorem d_Ch_init_40 : decode prog_3_method_1_code 40 = .ok (.newarray .int, 2) := by decide +kernel
theorem d_Ch_init_42 : decode prog_3_method_1_code 42 = .ok (.putfield 29, 3) := by decide +kernel
theorem d_Ch_init_45 : decode prog_3_method_1_code 45 = .ok (.aload_n 0, 1) := by decide +kernel
theorem d_Ch_init_46 : decode prog_3_method_1_code 46 = .ok (.bipush 7, 2) := by decide +kernel
theorem d_Ch_init_48 : decode prog_3_method_1_code 48 = .ok (.newarray .int, 2) := by decide +kernel
theorem d_Ch_init_50 : decode prog_3_method_1_code 50 = .ok (.putfield 32, 3) := by decide +kernel
theorem d_Ch_init_53 : decode prog_3_method_1_code 53 = .ok (.return_, 1) := by decide +kernel
theorem d_Ch_reset_0 : decode prog_3_method_2_code 0 = .ok (.aload_n 0, 1) := by decide +kernel
theorem d_Ch_reset_1 : decode prog_3_method_2_code 1 = .ok (.iconst 0, 1) := by decide +kernel
theorem d_Ch_reset_2 : decode prog_3_method_2_code 2 = .ok (.putfield 35, 3) := by decide +kernel
theorem d_Ch_reset_5 : decode prog_3_method_2_code 5 = .ok (.aload_n 0, 1) := by decide +kernel
theorem d_Ch_reset_6 : decode prog_3_method_2_code 6 = .ok (.bipush 8, 2) := by decide +kernel
theorem d_Ch_reset_8 : decode prog_3_method_2_code 8 = .ok (.putfield 9, 3) := by decide +kernel
theorem d_Ch_reset_11 : decode prog_3_method_2_code 11 = .ok (.aload_n 0, 1) := by decide +kernel
theorem d_Ch_reset_12 : decode prog_3_method_2_code 12 = .ok (.ldc 13, 2) := by decide +kernel
theorem d_Ch_reset_14 : decode prog_3_method_2_code 14 = .ok (.putfield 14, 3) := by decide +kernel
theorem d_Ch_reset_17 : decode prog_3_method_2_code 17 = .ok (.aload_n 0, 1) := by decide +kernel
theorem d_Ch_reset_18 : decode prog_3_method_2_code 18 = .ok (.iconst 0, 1) := by decide +kernel
theorem d_Ch_reset_19 : decode prog_3_method_2_code 19 = .ok (.putfield 39, 3) := by decide +kernel
theorem d_Ch_reset_22 : decode prog_3_method_2_code 22 = .ok (.aload_n 0, 1) := by decide +kernel
theorem d_Ch_reset_23 : decode prog_3_method_2_code 23 = .ok (.getfield 26, 3) := by decide +kernel
theorem d_Ch_reset_26 : decode prog_3_method_2_code 26 = .ok (.iconst 0, 1) := by decide +kernel
theorem d_Ch_reset_27 : decode prog_3_method_2_code 27 = .ok (.invokestatic 42, 3) := by decide +kernel
theorem d_Ch_reset_30 : decode prog_3_method_2_code 30 = .ok (.aload_n 0, 1) := by decide +kernel
theorem d_Ch_reset_31 : decode prog_3_method_2_code 31 = .ok (.getfield 29, 3) := by decide +kernel
theorem d_Ch_reset_34 : decode prog_3_method_2_code 34 = .ok (.iconst 0, 1) := by decide +kernel
theorem d_Ch_reset_35 : decode prog_3_method_2_code 35 = .ok (.invokestatic 42, 3) := by decide +kernel
theorem d_Ch_reset_38 : decode prog_3_method_2_code 38 = .ok (.aload_n 0, 1) := by decide +kernel
theorem d_Ch_reset_39 : decode prog_3_method_2_code 39 = .ok (.getfield 32, 3) := by decide +kernel
theorem d_Ch_reset_42 : decode prog_3_method_2_code 42 = .ok (.iconst 0, 1) := by decide +kernel
theorem d_Ch_reset_43 : decode prog_3_method_2_code 43 = .ok (.invokestatic 42, 3) := by decide +kernel
theorem d_Ch_reset_46 : decode prog_3_method_2_code 46 = .ok (.return_, 1) := by decide +kernel
theorem d_Ch_mostWith_0 : decode prog_3_method_3_code 0 = .ok (.aload_n 0, 1) := by decide +kernel
theorem d_Ch_mostWith_1 : decode prog_3_method_3_code 1 = .ok (.getfield 9, 3) := by decide +kernel
theorem d_Ch_mostWith_4 : decode prog_3_method_3_code 4 = .ok (.bipush 8, 2) := by decide +kernel
theorem d_Ch_mostWith_6 : decode prog_3_method_3_code 6 = .ok (.aload_n 0, 1) := by decide +kernel
theorem d_Ch_mostWith_7 : decode prog_3_method_3_code 7 = .ok (.getfield 9, 3) := by decide +kernel
theorem d_Ch_mostWith_10 : decode prog_3_method_3_code 10 = .ok (.iload_n 1, 1) := by decide +kernel
theorem d_Ch_mostWith_11 : decode prog_3_method_3_code 11 = .ok (.iadd, 1) := by decide +kernel
theorem d_Ch_mostWith_12 : decode prog_3_method_3_code 12 = .ok (.invokestatic 48, 3) := by decide +kernel
theorem d_Ch_mostWith_15 : decode prog_3_method_3_code 15 = .ok (.invokestatic 54, 3) := by decide +kernel
theorem d_Ch_mostWith_18 : decode prog_3_method_3_code 18 = .ok (.ireturn, 1) := by decide +kernel
theorem d_Ch_keepsApart_0 : decode prog_3_method_5_code 0 = .ok (.iconst 0, 1) := by decide +kernel
theorem d_Ch_keepsApart_1 : decode prog_3_method_5_code 1 = .ok (.istore_n 2, 1) := by decide +kernel
theorem d_Ch_keepsApart_2 : decode prog_3_method_5_code 2 = .ok (.iload_n 2, 1) := by decide +kernel
theorem d_Ch_keepsApart_3 : decode prog_3_method_5_code 3 = .ok (.bipush 7, 2) := by decide +kernel
theorem d_Ch_keepsApart_5 : decode prog_3_method_5_code 5 = .ok (.if_icmp .ge 30, 3) := by decide +kernel
theorem d_Ch_keepsApart_8 : decode prog_3_method_5_code 8 = .ok (.iload_n 1, 1) := by decide +kernel
theorem d_Ch_keepsApart_9 : decode prog_3_method_5_code 9 = .ok (.iload_n 2, 1) := by decide +kernel
theorem d_Ch_keepsApart_10 : decode prog_3_method_5_code 10 = .ok (.iushr, 1) := by decide +kernel
theorem d_Ch_keepsApart_11 : decode prog_3_method_5_code 11 = .ok (.iconst 1, 1) := by decide +kernel
theorem d_Ch_keepsApart_12 : decode prog_3_method_5_code 12 = .ok (.iand, 1) := by decide +kernel
theorem d_Ch_keepsApart_13 : decode prog_3_method_5_code 13 = .ok (.ifCond .eq 16, 3) := by decide +kernel
theorem d_Ch_keepsApart_16 : decode prog_3_method_5_code 16 = .ok (.aload_n 0, 1) := by decide +kernel
theorem d_Ch_keepsApart_17 : decode prog_3_method_5_code 17 = .ok (.getfield 32, 3) := by decide +kernel
theorem d_Ch_keepsApart_20 : decode prog_3_method_5_code 20 = .ok (.iload_n 2, 1) := by decide +kernel
theorem d_Ch_keepsApart_21 : decode prog_3_method_5_code 21 = .ok (.iaload, 1) := by decide +kernel
theorem d_Ch_keepsApart_22 : decode prog_3_method_5_code 22 = .ok (.iload_n 1, 1) := by decide +kernel
theorem d_Ch_keepsApart_23 : decode prog_3_method_5_code 23 = .ok (.iand, 1) := by decide +kernel
theorem d_Ch_keepsApart_24 : decode prog_3_method_5_code 24 = .ok (.ifCond .eq 5, 3) := by decide +kernel
theorem d_Ch_keepsApart_27 : decode prog_3_method_5_code 27 = .ok (.iconst 0, 1) := by decide +kernel
theorem d_Ch_keepsApart_28 : decode prog_3_method_5_code 28 = .ok (.ireturn, 1) := by decide +kernel
theorem d_Ch_keepsApart_29 : decode prog_3_method_5_code 29 = .ok (.iinc 2 1, 3) := by decide +kernel
theorem d_Ch_keepsApart_32 : decode prog_3_method_5_code 32 = .ok (.goto (-30), 3) := by decide +kernel
theorem d_Ch_keepsApart_35 : decode prog_3_method_5_code 35 = .ok (.iconst 1, 1) := by decide +kernel
theorem d_Ch_keepsApart_36 : decode prog_3_method_5_code 36 = .ok (.ireturn, 1) := by decide +kernel
theorem d_Ch_keepsTogether_0 : decode prog_3_method_4_code 0 = .ok (.iconst 0, 1) := by decide +kernel
theorem d_Ch_keepsTogether_1 : decode prog_3_method_4_code 1 = .ok (.istore_n 2, 1) := by decide +kernel
theorem d_Ch_keepsTogether_2 : decode prog_3_method_4_code 2 = .ok (.iload_n 2, 1) := by decide +kernel
theorem d_Ch_keepsTogether_3 : decode prog_3_method_4_code 3 = .ok (.bipush 7, 2) := by decide +kernel
theorem d_Ch_keepsTogether_5 : decode prog_3_method_4_code 5 = .ok (.if_icmp .ge 32, 3) := by decide +kernel
theorem d_Ch_keepsTogether_8 : decode prog_3_method_4_code 8 = .ok (.iload_n 1, 1) := by decide +kernel
theorem d_Ch_keepsTogether_9 : decode prog_3_method_4_code 9 = .ok (.iload_n 2, 1) := by decide +kernel
theorem d_Ch_keepsTogether_10 : decode prog_3_method_4_code 10 = .ok (.iushr, 1) := by decide +kernel
theorem d_Ch_keepsTogether_11 : decode prog_3_method_4_code 11 = .ok (.iconst 1, 1) := by decide +kernel
theorem d_Ch_keepsTogether_12 : decode prog_3_method_4_code 12 = .ok (.iand, 1) := by decide +kernel
theorem d_Ch_keepsTogether_13 : decode prog_3_method_4_code 13 = .ok (.ifCond .eq 18, 3) := by decide +kernel
theorem d_Ch_keepsTogether_16 : decode prog_3_method_4_code 16 = .ok (.aload_n 0, 1) := by decide +kernel
theorem d_Ch_keepsTogether_17 : decode prog_3_method_4_code 17 = .ok (.getfield 29, 3) := by decide +kernel
theorem d_Ch_keepsTogether_20 : decode prog_3_method_4_code 20 = .ok (.iload_n 2, 1) := by decide +kernel
theorem d_Ch_keepsTogether_21 : decode prog_3_method_4_code 21 = .ok (.iaload, 1) := by decide +kernel
theorem d_Ch_keepsTogether_22 : decode prog_3_method_4_code 22 = .ok (.iload_n 1, 1) := by decide +kernel
theorem d_Ch_keepsTogether_23 : decode prog_3_method_4_code 23 = .ok (.iconst (-1), 1) := by decide +kernel
theorem d_Ch_keepsTogether_24 : decode prog_3_method_4_code 24 = .ok (.ixor, 1) := by decide +kernel
theorem d_Ch_keepsTogether_25 : decode prog_3_method_4_code 25 = .ok (.iand, 1) := by decide +kernel
theorem d_Ch_keepsTogether_26 : decode prog_3_method_4_code 26 = .ok (.ifCond .eq 5, 3) := by decide +kernel
theorem d_Ch_keepsTogether_29 : decode prog_3_method_4_code 29 = .ok (.iconst 0, 1) := by decide +kernel
theorem d_Ch_keepsTogether_30 : decode prog_3_method_4_code 30 = .ok (.ireturn, 1) := by decide +kernel
theorem d_Ch_keepsTogether_31 : decode prog_3_method_4_code 31 = .ok (.iinc 2 1, 3) := by decide +kernel
theorem d_Ch_keepsTogether_34 : decode prog_3_method_4_code 34 = .ok (.goto (-32), 3) := by decide +kernel
theorem d_Ch_keepsTogether_37 : decode prog_3_method_4_code 37 = .ok (.iconst 1, 1) := by decide +kernel
theorem d_Ch_keepsTogether_38 : decode prog_3_method_4_code 38 = .ok (.ireturn, 1) := by decide +kernel
