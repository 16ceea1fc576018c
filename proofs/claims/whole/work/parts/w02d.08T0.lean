theorem d_T_init_0 : decode prog_11_method_1_code 0 = .ok (.aload_n 0, 1) := by decide +kernel
theorem d_T_init_1 : decode prog_11_method_1_code 1 = .ok (.invokespecial 3, 3) := by decide +kernel
theorem d_T_init_4 : decode prog_11_method_1_code 4 = .ok (.aload_n 0, 1) := by decide +kernel
theorem d_T_init_5 : decode prog_11_method_1_code 5 = .ok (.bipush 100, 2) := by decide +kernel
theorem d_T_init_7 : decode prog_11_method_1_code 7 = .ok (.newarray .char, 2) := by decide +kernel
theorem d_T_init_9 : decode prog_11_method_1_code 9 = .ok (.putfield 11, 3) := by decide +kernel
theorem d_T_init_12 : decode prog_11_method_1_code 12 = .ok (.return_, 1) := by decide +kernel
theorem d_T_append_0 : decode prog_11_method_2_code 0 = .ok (.aload_n 0, 1) := by decide +kernel
theorem d_T_append_1 : decode prog_11_method_2_code 1 = .ok (.getfield 15, 3) := by decide +kernel
theorem d_T_append_4 : decode prog_11_method_2_code 4 = .ok (.iconst 4, 1) := by decide +kernel
theorem d_T_append_5 : decode prog_11_method_2_code 5 = .ok (.iadd, 1) := by decide +kernel
theorem d_T_append_6 : decode prog_11_method_2_code 6 = .ok (.bipush 100, 2) := by decide +kernel
theorem d_T_append_8 : decode prog_11_method_2_code 8 = .ok (.if_icmp .le 5, 3) := by decide +kernel
theorem d_T_append_11 : decode prog_11_method_2_code 11 = .ok (.iconst (-1), 1) := by decide +kernel
theorem d_T_append_12 : decode prog_11_method_2_code 12 = .ok (.ireturn, 1) := by decide +kernel
theorem d_T_append_13 : decode prog_11_method_2_code 13 = .ok (.bipush 24, 2) := by decide +kernel
theorem d_T_append_15 : decode prog_11_method_2_code 15 = .ok (.istore_n 2, 1) := by decide +kernel
theorem d_T_append_16 : decode prog_11_method_2_code 16 = .ok (.iload_n 2, 1) := by decide +kernel
theorem d_T_append_17 : decode prog_11_method_2_code 17 = .ok (.ifCond .lt 36, 3) := by decide +kernel
theorem d_T_append_20 : decode prog_11_method_2_code 20 = .ok (.aload_n 0, 1) := by decide +kernel
theorem d_T_append_21 : decode prog_11_method_2_code 21 = .ok (.getfield 11, 3) := by decide +kernel
theorem d_T_append_24 : decode prog_11_method_2_code 24 = .ok (.aload_n 0, 1) := by decide +kernel
theorem d_T_append_25 : decode prog_11_method_2_code 25 = .ok (.getfield 15, 3) := by decide +kernel
theorem d_T_append_28 : decode prog_11_method_2_code 28 = .ok (.iload_n 1, 1) := by decide +kernel
theorem d_T_append_29 : decode prog_11_method_2_code 29 = .ok (.iload_n 2, 1) := by decide +kernel
theorem d_T_append_30 : decode prog_11_method_2_code 30 = .ok (.iushr, 1) := by decide +kernel
theorem d_T_append_31 : decode prog_11_method_2_code 31 = .ok (.sipush 255, 3) := by decide +kernel
theorem d_T_append_34 : decode prog_11_method_2_code 34 = .ok (.iand, 1) := by decide +kernel
theorem d_T_append_35 : decode prog_11_method_2_code 35 = .ok (.i2c, 1) := by decide +kernel
theorem d_T_append_36 : decode prog_11_method_2_code 36 = .ok (.castore, 1) := by decide +kernel
theorem d_T_append_37 : decode prog_11_method_2_code 37 = .ok (.aload_n 0, 1) := by decide +kernel
theorem d_T_append_38 : decode prog_11_method_2_code 38 = .ok (.dup, 1) := by decide +kernel
theorem d_T_append_39 : decode prog_11_method_2_code 39 = .ok (.getfield 15, 3) := by decide +kernel
theorem d_T_append_42 : decode prog_11_method_2_code 42 = .ok (.iconst 1, 1) := by decide +kernel
theorem d_T_append_43 : decode prog_11_method_2_code 43 = .ok (.iadd, 1) := by decide +kernel
theorem d_T_append_44 : decode prog_11_method_2_code 44 = .ok (.putfield 15, 3) := by decide +kernel
theorem d_T_append_47 : decode prog_11_method_2_code 47 = .ok (.iinc 2 (-8), 3) := by decide +kernel
theorem d_T_append_50 : decode prog_11_method_2_code 50 = .ok (.goto (-34), 3) := by decide +kernel
theorem d_T_append_53 : decode prog_11_method_2_code 53 = .ok (.aload_n 0, 1) := by decide +kernel
theorem d_T_append_54 : decode prog_11_method_2_code 54 = .ok (.getfield 15, 3) := by decide +kernel
theorem d_T_append_57 : decode prog_11_method_2_code 57 = .ok (.ireturn, 1) := by decide +kernel
theorem d_T_next_0 : decode prog_11_method_4_code 0 = .ok (.aload_n 0, 1) := by decide +kernel
theorem d_T_next_1 : decode prog_11_method_4_code 1 = .ok (.getfield 28, 3) := by decide +kernel
theorem d_T_next_4 : decode prog_11_method_4_code 4 = .ok (.aload_n 0, 1) := by decide +kernel
theorem d_T_next_5 : decode prog_11_method_4_code 5 = .ok (.getfield 15, 3) := by decide +kernel
theorem d_T_next_8 : decode prog_11_method_4_code 8 = .ok (.if_icmp .lt 5, 3) := by decide +kernel
theorem d_T_next_11 : decode prog_11_method_4_code 11 = .ok (.iconst (-1), 1) := by decide +kernel
theorem d_T_next_12 : decode prog_11_method_4_code 12 = .ok (.ireturn, 1) := by decide +kernel
theorem d_T_next_13 : decode prog_11_method_4_code 13 = .ok (.aload_n 0, 1) := by decide +kernel
theorem d_T_next_14 : decode prog_11_method_4_code 14 = .ok (.getfield 28, 3) := by decide +kernel
theorem d_T_next_17 : decode prog_11_method_4_code 17 = .ok (.bipush 60, 2) := by decide +kernel
theorem d_T_next_19 : decode prog_11_method_4_code 19 = .ok (.if_icmp .ge 15, 3) := by decide +kernel
theorem d_T_next_22 : decode prog_11_method_4_code 22 = .ok (.aload_n 0, 1) := by decide +kernel
theorem d_T_next_23 : decode prog_11_method_4_code 23 = .ok (.getfield 11, 3) := by decide +kernel
theorem d_T_next_26 : decode prog_11_method_4_code 26 = .ok (.aload_n 0, 1) := by decide +kernel
theorem d_T_next_27 : decode prog_11_method_4_code 27 = .ok (.getfield 28, 3) := by decide +kernel
theorem d_T_next_30 : decode prog_11_method_4_code 30 = .ok (.caload, 1) := by decide +kernel
theorem d_T_next_31 : decode prog_11_method_4_code 31 = .ok (.goto 5, 3) := by decide +kernel
theorem d_T_next_34 : decode prog_11_method_4_code 34 = .ok (.bipush (-2), 2) := by decide +kernel
theorem d_T_next_36 : decode prog_11_method_4_code 36 = .ok (.ireturn, 1) := by decide +kernel
theorem d_T_pass_0 : decode prog_11_method_5_code 0 = .ok (.aload_n 0, 1) := by decide +kernel
theorem d_T_pass_1 : decode prog_11_method_5_code 1 = .ok (.invokevirtual 35, 3) := by decide +kernel
theorem d_T_pass_4 : decode prog_11_method_5_code 4 = .ok (.iload_n 1, 1) := by decide +kernel
theorem d_T_pass_5 : decode prog_11_method_5_code 5 = .ok (.if_icmp .eq 5, 3) := by decide +kernel
theorem d_T_pass_8 : decode prog_11_method_5_code 8 = .ok (.iconst 0, 1) := by decide +kernel
theorem d_T_pass_9 : decode prog_11_method_5_code 9 = .ok (.ireturn, 1) := by decide +kernel
theorem d_T_pass_10 : decode prog_11_method_5_code 10 = .ok (.aload_n 0, 1) := by decide +kernel
theorem d_T_pass_11 : decode prog_11_method_5_code 11 = .ok (.dup, 1) := by decide +kernel
theorem d_T_pass_12 : decode prog_11_method_5_code 12 = .ok (.getfield 28, 3) := by decide +kernel
theorem d_T_pass_15 : decode prog_11_method_5_code 15 = .ok (.iconst 1, 1) := by decide +kernel
theorem d_T_pass_16 : decode prog_11_method_5_code 16 = .ok (.iadd, 1) := by decide +kernel
theorem d_T_pass_17 : decode prog_11_method_5_code 17 = .ok (.putfield 28, 3) := by decide +kernel
theorem d_T_pass_20 : decode prog_11_method_5_code 20 = .ok (.iconst 1, 1) := by decide +kernel
theorem d_T_pass_21 : decode prog_11_method_5_code 21 = .ok (.ireturn, 1) := by decide +kernel
theorem d_T_readDigit_0 : decode prog_11_method_7_code 0 = .ok (.aload_n 0, 1) := by decide +kernel
theorem d_T_readDigit_1 : decode prog_11_method_7_code 1 = .ok (.invokevirtual 35, 3) := by decide +kernel
theorem d_T_readDigit_4 : decode prog_11_method_7_code 4 = .ok (.bipush 48, 2) := by decide +kernel
theorem d_T_readDigit_6 : decode prog_11_method_7_code 6 = .ok (.isub, 1) := by decide +kernel
theorem d_T_readDigit_7 : decode prog_11_method_7_code 7 = .ok (.istore_n 2, 1) := by decide +kernel
theorem d_T_readDigit_8 : decode prog_11_method_7_code 8 = .ok (.iload_n 2, 1) := by decide +kernel
theorem d_T_readDigit_9 : decode prog_11_method_7_code 9 = .ok (.ifCond .lt 8, 3) := by decide +kernel
theorem d_T_readDigit_12 : decode prog_11_method_7_code 12 = .ok (.iload_n 2, 1) := by decide +kernel
theorem d_T_readDigit_13 : decode prog_11_method_7_code 13 = .ok (.iload_n 1, 1) := by decide +kernel
theorem d_T_readDigit_14 : decode prog_11_method_7_code 14 = .ok (.if_icmp .le 5, 3) := by decide +kernel
theorem d_T_readDigit_17 : decode prog_11_method_7_code 17 = .ok (.iconst (-1), 1) := by decide +kernel
theorem d_T_readDigit_18 : decode prog_11_method_7_code 18 = .ok (.ireturn, 1) := by decide +kernel
theorem d_T_readDigit_19 : decode prog_11_method_7_code 19 = .ok (.aload_n 0, 1) := by decide +kernel
theorem d_T_readDigit_20 : decode prog_11_method_7_code 20 = .ok (.dup, 1) := by decide +kernel
theorem d_T_readDigit_21 : decode prog_11_method_7_code 21 = .ok (.getfield 28, 3) := by decide +kernel
theorem d_T_readDigit_24 : decode prog_11_method_7_code 24 = .ok (.iconst 1, 1) := by decide +kernel
theorem d_T_readDigit_25 : decode prog_11_method_7_code 25 = .ok (.iadd, 1) := by decide +kernel
theorem d_T_readDigit_26 : decode prog_11_method_7_code 26 = .ok (.putfield 28, 3) := by decide +kernel
theorem d_T_readDigit_29 : decode prog_11_method_7_code 29 = .ok (.iload_n 2, 1) := by decide +kernel
theorem d_T_readDigit_30 : decode prog_11_method_7_code 30 = .ok (.ireturn, 1) := by decide +kernel
theorem d_T_readKept_0 : decode prog_11_method_10_code 0 = .ok (.aload_n 0, 1) := by decide +kernel
theorem d_T_readKept_1 : decode prog_11_method_10_code 1 = .ok (.iconst 3, 1) := by decide +kernel
theorem d_T_readKept_2 : decode prog_11_method_10_code 2 = .ok (.invokevirtual 67, 3) := by decide +kernel
theorem d_T_readKept_5 : decode prog_11_method_10_code 5 = .ok (.istore_n 1, 1) := by decide +kernel
theorem d_T_readKept_6 : decode prog_11_method_10_code 6 = .ok (.iload_n 1, 1) := by decide +kernel
theorem d_T_readKept_7 : decode prog_11_method_10_code 7 = .ok (.iconst (-1), 1) := by decide +kernel
theorem d_T_readKept_8 : decode prog_11_method_10_code 8 = .ok (.if_icmp .eq 12, 3) := by decide +kernel
theorem d_T_readKept_11 : decode prog_11_method_10_code 11 = .ok (.aload_n 0, 1) := by decide +kernel
theorem d_T_readKept_12 : decode prog_11_method_10_code 12 = .ok (.bipush 42, 2) := by decide +kernel
theorem d_T_readKept_14 : decode prog_11_method_10_code 14 = .ok (.invokevirtual 43, 3) := by decide +kernel
theorem d_T_readKept_17 : decode prog_11_method_10_code 17 = .ok (.ifCond .ne 5, 3) := by decide +kernel
theorem d_T_readKept_20 : decode prog_11_method_10_code 20 = .ok (.iconst 0, 1) := by decide +kernel
theorem d_T_readKept_21 : decode prog_11_method_10_code 21 = .ok (.ireturn, 1) := by decide +kernel
theorem d_T_readKept_22 : decode prog_11_method_10_code 22 = .ok (.aload_n 0, 1) := by decide +kernel
theorem d_T_readKept_23 : decode prog_11_method_10_code 23 = .ok (.bipush 9, 2) := by decide +kernel
theorem d_T_readKept_25 : decode prog_11_method_10_code 25 = .ok (.invokevirtual 67, 3) := by decide +kernel
theorem d_T_readKept_28 : decode prog_11_method_10_code 28 = .ok (.istore_n 2, 1) := by decide +kernel
theorem d_T_readKept_29 : decode prog_11_method_10_code 29 = .ok (.iload_n 2, 1) := by decide +kernel
theorem d_T_readKept_30 : decode prog_11_method_10_code 30 = .ok (.iconst (-1), 1) := by decide +kernel
theorem d_T_readKept_31 : decode prog_11_method_10_code 31 = .ok (.if_icmp .ne 5, 3) := by decide +kernel
theorem d_T_readKept_34 : decode prog_11_method_10_code 34 = .ok (.iconst 0, 1) := by decide +kernel
theorem d_T_readKept_35 : decode prog_11_method_10_code 35 = .ok (.ireturn, 1) := by decide +kernel
theorem d_T_readKept_36 : decode prog_11_method_10_code 36 = .ok (.aload_n 0, 1) := by decide +kernel
theorem d_T_readKept_37 : decode prog_11_method_10_code 37 = .ok (.getfield 19, 3) := by decide +kernel
theorem d_T_readKept_40 : decode prog_11_method_10_code 40 = .ok (.getfield 95, 3) := by decide +kernel
theorem d_T_readKept_43 : decode prog_11_method_10_code 43 = .ok (.iload_n 1, 1) := by decide +kernel
theorem d_T_readKept_44 : decode prog_11_method_10_code 44 = .ok (.aload_n 0, 1) := by decide +kernel
theorem d_T_readKept_45 : decode prog_11_method_10_code 45 = .ok (.getfield 19, 3) := by decide +kernel
theorem d_T_readKept_48 : decode prog_11_method_10_code 48 = .ok (.getfield 95, 3) := by decide +kernel
theorem d_T_readKept_51 : decode prog_11_method_10_code 51 = .ok (.iload_n 1, 1) := by decide +kernel
theorem d_T_readKept_52 : decode prog_11_method_10_code 52 = .ok (.iaload, 1) := by decide +kernel
theorem d_T_readKept_53 : decode prog_11_method_10_code 53 = .ok (.iload_n 2, 1) := by decide +kernel
theorem d_T_readKept_54 : decode prog_11_method_10_code 54 = .ok (.invokestatic 98, 3) := by decide +kernel
theorem d_T_readKept_57 : decode prog_11_method_10_code 57 = .ok (.iastore, 1) := by decide +kernel
theorem d_T_readKept_58 : decode prog_11_method_10_code 58 = .ok (.iconst 1, 1) := by decide +kernel
theorem d_T_readKept_59 : decode prog_11_method_10_code 59 = .ok (.ireturn, 1) := by decide +kernel
theorem d_T_readKeys_0 : decode prog_11_method_9_code 0 = .ok (.aload_n 0, 1) := by decide +kernel
theorem d_T_readKeys_1 : decode prog_11_method_9_code 1 = .ok (.getfield 19, 3) := by decide +kernel
theorem d_T_readKeys_4 : decode prog_11_method_9_code 4 = .ok (.iconst 0, 1) := by decide +kernel
theorem d_T_readKeys_5 : decode prog_11_method_9_code 5 = .ok (.putfield 77, 3) := by decide +kernel
theorem d_T_readKeys_8 : decode prog_11_method_9_code 8 = .ok (.iconst 0, 1) := by decide +kernel
theorem d_T_readKeys_9 : decode prog_11_method_9_code 9 = .ok (.istore_n 1, 1) := by decide +kernel
theorem d_T_readKeys_10 : decode prog_11_method_9_code 10 = .ok (.iload_n 1, 1) := by decide +kernel
theorem d_T_readKeys_11 : decode prog_11_method_9_code 11 = .ok (.iconst 5, 1) := by decide +kernel
theorem d_T_readKeys_12 : decode prog_11_method_9_code 12 = .ok (.if_icmp .ge 117, 3) := by decide +kernel
theorem d_T_readKeys_15 : decode prog_11_method_9_code 15 = .ok (.aload_n 0, 1) := by decide +kernel
theorem d_T_readKeys_16 : decode prog_11_method_9_code 16 = .ok (.invokevirtual 35, 3) := by decide +kernel
theorem d_T_readKeys_19 : decode prog_11_method_9_code 19 = .ok (.istore_n 2, 1) := by decide +kernel
theorem d_T_readKeys_20 : decode prog_11_method_9_code 20 = .ok (.iload_n 2, 1) := by decide +kernel
theorem d_T_readKeys_21 : decode prog_11_method_9_code 21 = .ok (.bipush 43, 2) := by decide +kernel
theorem d_T_readKeys_23 : decode prog_11_method_9_code 23 = .ok (.if_icmp .eq 19, 3) := by decide +kernel
theorem d_T_readKeys_26 : decode prog_11_method_9_code 26 = .ok (.iload_n 2, 1) := by decide +kernel
theorem d_T_readKeys_27 : decode prog_11_method_9_code 27 = .ok (.bipush 45, 2) := by decide +kernel
theorem d_T_readKeys_29 : decode prog_11_method_9_code 29 = .ok (.if_icmp .eq 13, 3) := by decide +kernel
theorem d_T_readKeys_32 : decode prog_11_method_9_code 32 = .ok (.iload_n 1, 1) := by decide +kernel
theorem d_T_readKeys_33 : decode prog_11_method_9_code 33 = .ok (.ifCond .le 7, 3) := by decide +kernel
theorem d_T_readKeys_36 : decode prog_11_method_9_code 36 = .ok (.iconst 1, 1) := by decide +kernel
theorem d_T_readKeys_37 : decode prog_11_method_9_code 37 = .ok (.goto 4, 3) := by decide +kernel
theorem d_T_readKeys_40 : decode prog_11_method_9_code 40 = .ok (.iconst 0, 1) := by decide +kernel
theorem d_T_readKeys_41 : decode prog_11_method_9_code 41 = .ok (.ireturn, 1) := by decide +kernel
theorem d_T_readKeys_42 : decode prog_11_method_9_code 42 = .ok (.aload_n 0, 1) := by decide +kernel
theorem d_T_readKeys_43 : decode prog_11_method_9_code 43 = .ok (.dup, 1) := by decide +kernel
theorem d_T_readKeys_44 : decode prog_11_method_9_code 44 = .ok (.getfield 28, 3) := by decide +kernel
theorem d_T_readKeys_47 : decode prog_11_method_9_code 47 = .ok (.iconst 1, 1) := by decide +kernel
theorem d_T_readKeys_48 : decode prog_11_method_9_code 48 = .ok (.iadd, 1) := by decide +kernel
theorem d_T_readKeys_49 : decode prog_11_method_9_code 49 = .ok (.putfield 28, 3) := by decide +kernel
theorem d_T_readKeys_52 : decode prog_11_method_9_code 52 = .ok (.aload_n 0, 1) := by decide +kernel
theorem d_T_readKeys_53 : decode prog_11_method_9_code 53 = .ok (.invokevirtual 35, 3) := by decide +kernel
theorem d_T_readKeys_56 : decode prog_11_method_9_code 56 = .ok (.istore_n 3, 1) := by decide +kernel
theorem d_T_readKeys_57 : decode prog_11_method_9_code 57 = .ok (.iload_n 3, 1) := by decide +kernel
theorem d_T_readKeys_58 : decode prog_11_method_9_code 58 = .ok (.ifCond .lt 13, 3) := by decide +kernel
theorem d_T_readKeys_61 : decode prog_11_method_9_code 61 = .ok (.ldc 80, 2) := by decide +kernel
theorem d_T_readKeys_63 : decode prog_11_method_9_code 63 = .ok (.iload_n 3, 1) := by decide +kernel
theorem d_T_readKeys_64 : decode prog_11_method_9_code 64 = .ok (.i2c, 1) := by decide +kernel
theorem d_T_readKeys_65 : decode prog_11_method_9_code 65 = .ok (.invokevirtual 82, 3) := by decide +kernel
theorem d_T_readKeys_68 : decode prog_11_method_9_code 68 = .ok (.ifCond .ge 5, 3) := by decide +kernel
theorem d_T_readKeys_71 : decode prog_11_method_9_code 71 = .ok (.iconst 0, 1) := by decide +kernel
theorem d_T_readKeys_72 : decode prog_11_method_9_code 72 = .ok (.ireturn, 1) := by decide +kernel
theorem d_T_readKeys_73 : decode prog_11_method_9_code 73 = .ok (.aload_n 0, 1) := by decide +kernel
theorem d_T_readKeys_74 : decode prog_11_method_9_code 74 = .ok (.dup, 1) := by decide +kernel
theorem d_T_readKeys_75 : decode prog_11_method_9_code 75 = .ok (.getfield 28, 3) := by decide +kernel
theorem d_T_readKeys_78 : decode prog_11_method_9_code 78 = .ok (.iconst 1, 1) := by decide +kernel
theorem d_T_readKeys_79 : decode prog_11_method_9_code 79 = .ok (.iadd, 1) := by decide +kernel
theorem d_T_readKeys_80 : decode prog_11_method_9_code 80 = .ok (.putfield 28, 3) := by decide +kernel
theorem d_T_readKeys_83 : decode prog_11_method_9_code 83 = .ok (.aload_n 0, 1) := by decide +kernel
theorem d_T_readKeys_84 : decode prog_11_method_9_code 84 = .ok (.getfield 19, 3) := by decide +kernel
theorem d_T_readKeys_87 : decode prog_11_method_9_code 87 = .ok (.getfield 87, 3) := by decide +kernel
theorem d_T_readKeys_90 : decode prog_11_method_9_code 90 = .ok (.iload_n 1, 1) := by decide +kernel
theorem d_T_readKeys_91 : decode prog_11_method_9_code 91 = .ok (.iload_n 3, 1) := by decide +kernel
theorem d_T_readKeys_92 : decode prog_11_method_9_code 92 = .ok (.iastore, 1) := by decide +kernel
theorem d_T_readKeys_93 : decode prog_11_method_9_code 93 = .ok (.aload_n 0, 1) := by decide +kernel
theorem d_T_readKeys_94 : decode prog_11_method_9_code 94 = .ok (.getfield 19, 3) := by decide +kernel
theorem d_T_readKeys_97 : decode prog_11_method_9_code 97 = .ok (.getfield 90, 3) := by decide +kernel
theorem d_T_readKeys_100 : decode prog_11_method_9_code 100 = .ok (.iload_n 1, 1) := by decide +kernel
theorem d_T_readKeys_101 : decode prog_11_method_9_code 101 = .ok (.iload_n 2, 1) := by decide +kernel
theorem d_T_readKeys_102 : decode prog_11_method_9_code 102 = .ok (.bipush 43, 2) := by decide +kernel
theorem d_T_readKeys_104 : decode prog_11_method_9_code 104 = .ok (.if_icmp .ne 7, 3) := by decide +kernel
theorem d_T_readKeys_107 : decode prog_11_method_9_code 107 = .ok (.iconst 1, 1) := by decide +kernel
theorem d_T_readKeys_108 : decode prog_11_method_9_code 108 = .ok (.goto 4, 3) := by decide +kernel
theorem d_T_readKeys_111 : decode prog_11_method_9_code 111 = .ok (.iconst (-1), 1) := by decide +kernel
theorem d_T_readKeys_112 : decode prog_11_method_9_code 112 = .ok (.iastore, 1) := by decide +kernel
theorem d_T_readKeys_113 : decode prog_11_method_9_code 113 = .ok (.aload_n 0, 1) := by decide +kernel
theorem d_T_readKeys_114 : decode prog_11_method_9_code 114 = .ok (.getfield 19, 3) := by decide +kernel
theorem d_T_readKeys_117 : decode prog_11_method_9_code 117 = .ok (.iload_n 1, 1) := by decide +kernel
theorem d_T_readKeys_118 : decode prog_11_method_9_code 118 = .ok (.iconst 1, 1) := by decide +kernel
theorem d_T_readKeys_119 : decode prog_11_method_9_code 119 = .ok (.iadd, 1) := by decide +kernel
theorem d_T_readKeys_120 : decode prog_11_method_9_code 120 = .ok (.putfield 77, 3) := by decide +kernel
theorem d_T_readKeys_123 : decode prog_11_method_9_code 123 = .ok (.iinc 1 1, 3) := by decide +kernel
theorem d_T_readKeys_126 : decode prog_11_method_9_code 126 = .ok (.goto (-116), 3) := by decide +kernel
theorem d_T_readKeys_129 : decode prog_11_method_9_code 129 = .ok (.iconst 1, 1) := by decide +kernel
theorem d_T_readKeys_130 : decode prog_11_method_9_code 130 = .ok (.ireturn, 1) := by decide +kernel
theorem d_T_readNumber_0 : decode prog_11_method_8_code 0 = .ok (.aload_n 0, 1) := by decide +kernel
theorem d_T_readNumber_1 : decode prog_11_method_8_code 1 = .ok (.bipush 9, 2) := by decide +kernel
theorem d_T_readNumber_3 : decode prog_11_method_8_code 3 = .ok (.invokevirtual 67, 3) := by decide +kernel
theorem d_T_readNumber_6 : decode prog_11_method_8_code 6 = .ok (.istore_n 2, 1) := by decide +kernel
theorem d_T_readNumber_7 : decode prog_11_method_8_code 7 = .ok (.iload_n 2, 1) := by decide +kernel
theorem d_T_readNumber_8 : decode prog_11_method_8_code 8 = .ok (.iconst (-1), 1) := by decide +kernel
theorem d_T_readNumber_9 : decode prog_11_method_8_code 9 = .ok (.if_icmp .ne 5, 3) := by decide +kernel
theorem d_T_readNumber_12 : decode prog_11_method_8_code 12 = .ok (.iconst 0, 1) := by decide +kernel
theorem d_T_readNumber_13 : decode prog_11_method_8_code 13 = .ok (.ireturn, 1) := by decide +kernel
theorem d_T_readNumber_14 : decode prog_11_method_8_code 14 = .ok (.iconst 1, 1) := by decide +kernel
theorem d_T_readNumber_15 : decode prog_11_method_8_code 15 = .ok (.istore_n 3, 1) := by decide +kernel
theorem d_T_readNumber_16 : decode prog_11_method_8_code 16 = .ok (.iload_n 3, 1) := by decide +kernel
theorem d_T_readNumber_17 : decode prog_11_method_8_code 17 = .ok (.iconst 3, 1) := by decide +kernel
theorem d_T_readNumber_18 : decode prog_11_method_8_code 18 = .ok (.if_icmp .ge 34, 3) := by decide +kernel
theorem d_T_readNumber_21 : decode prog_11_method_8_code 21 = .ok (.aload_n 0, 1) := by decide +kernel
theorem d_T_readNumber_22 : decode prog_11_method_8_code 22 = .ok (.bipush 9, 2) := by decide +kernel
theorem d_T_readNumber_24 : decode prog_11_method_8_code 24 = .ok (.invokevirtual 67, 3) := by decide +kernel
theorem d_T_readNumber_27 : decode prog_11_method_8_code 27 = .ok (.istore 4, 2) := by decide +kernel
theorem d_T_readNumber_29 : decode prog_11_method_8_code 29 = .ok (.iload 4, 2) := by decide +kernel
theorem d_T_readNumber_31 : decode prog_11_method_8_code 31 = .ok (.iconst (-1), 1) := by decide +kernel
theorem d_T_readNumber_32 : decode prog_11_method_8_code 32 = .ok (.if_icmp .ne 6, 3) := by decide +kernel
theorem d_T_readNumber_35 : decode prog_11_method_8_code 35 = .ok (.goto 17, 3) := by decide +kernel
theorem d_T_readNumber_38 : decode prog_11_method_8_code 38 = .ok (.iload_n 2, 1) := by decide +kernel
theorem d_T_readNumber_39 : decode prog_11_method_8_code 39 = .ok (.bipush 10, 2) := by decide +kernel
theorem d_T_readNumber_41 : decode prog_11_method_8_code 41 = .ok (.imul, 1) := by decide +kernel
theorem d_T_readNumber_42 : decode prog_11_method_8_code 42 = .ok (.iload 4, 2) := by decide +kernel
theorem d_T_readNumber_44 : decode prog_11_method_8_code 44 = .ok (.iadd, 1) := by decide +kernel
theorem d_T_readNumber_45 : decode prog_11_method_8_code 45 = .ok (.istore_n 2, 1) := by decide +kernel
theorem d_T_readNumber_46 : decode prog_11_method_8_code 46 = .ok (.iinc 3 1, 3) := by decide +kernel
theorem d_T_readNumber_49 : decode prog_11_method_8_code 49 = .ok (.goto (-33), 3) := by decide +kernel
theorem d_T_readNumber_52 : decode prog_11_method_8_code 52 = .ok (.iload_n 1, 1) := by decide +kernel
theorem d_T_readNumber_53 : decode prog_11_method_8_code 53 = .ok (.bipush 113, 2) := by decide +kernel
theorem d_T_readNumber_55 : decode prog_11_method_8_code 55 = .ok (.if_icmp .ne 14, 3) := by decide +kernel
theorem d_T_readNumber_58 : decode prog_11_method_8_code 58 = .ok (.aload_n 0, 1) := by decide +kernel
theorem d_T_readNumber_59 : decode prog_11_method_8_code 59 = .ok (.getfield 19, 3) := by decide +kernel
theorem d_T_readNumber_62 : decode prog_11_method_8_code 62 = .ok (.iload_n 2, 1) := by decide +kernel
theorem d_T_readNumber_63 : decode prog_11_method_8_code 63 = .ok (.putfield 71, 3) := by decide +kernel
theorem d_T_readNumber_66 : decode prog_11_method_8_code 66 = .ok (.goto 11, 3) := by decide +kernel
theorem d_T_readNumber_69 : decode prog_11_method_8_code 69 = .ok (.aload_n 0, 1) := by decide +kernel
theorem d_T_readNumber_70 : decode prog_11_method_8_code 70 = .ok (.getfield 19, 3) := by decide +kernel
theorem d_T_readNumber_73 : decode prog_11_method_8_code 73 = .ok (.iload_n 2, 1) := by decide +kernel
theorem d_T_readNumber_74 : decode prog_11_method_8_code 74 = .ok (.putfield 74, 3) := by decide +kernel
theorem d_T_readNumber_77 : decode prog_11_method_8_code 77 = .ok (.iconst 1, 1) := by decide +kernel
theorem d_T_readNumber_78 : decode prog_11_method_8_code 78 = .ok (.ireturn, 1) := by decide +kernel
theorem d_T_readTwo_0 : decode prog_11_method_11_code 0 = .ok (.aload_n 0, 1) := by decide +kernel
theorem d_T_readTwo_1 : decode prog_11_method_11_code 1 = .ok (.bipush 6, 2) := by decide +kernel
theorem d_T_readTwo_3 : decode prog_11_method_11_code 3 = .ok (.invokevirtual 67, 3) := by decide +kernel
theorem d_T_readTwo_6 : decode prog_11_method_11_code 6 = .ok (.istore_n 3, 1) := by decide +kernel
theorem d_T_readTwo_7 : decode prog_11_method_11_code 7 = .ok (.iload_n 3, 1) := by decide +kernel
theorem d_T_readTwo_8 : decode prog_11_method_11_code 8 = .ok (.iconst (-1), 1) := by decide +kernel
theorem d_T_readTwo_9 : decode prog_11_method_11_code 9 = .ok (.if_icmp .eq 22, 3) := by decide +kernel
theorem d_T_readTwo_12 : decode prog_11_method_11_code 12 = .ok (.aload_n 0, 1) := by decide +kernel
theorem d_T_readTwo_13 : decode prog_11_method_11_code 13 = .ok (.iload_n 1, 1) := by decide +kernel
theorem d_T_readTwo_14 : decode prog_11_method_11_code 14 = .ok (.invokevirtual 43, 3) := by decide +kernel
theorem d_T_readTwo_17 : decode prog_11_method_11_code 17 = .ok (.ifCond .eq 14, 3) := by decide +kernel
theorem d_T_readTwo_20 : decode prog_11_method_11_code 20 = .ok (.aload_n 0, 1) := by decide +kernel
theorem d_T_readTwo_21 : decode prog_11_method_11_code 21 = .ok (.invokevirtual 35, 3) := by decide +kernel
theorem d_T_readTwo_24 : decode prog_11_method_11_code 24 = .ok (.bipush 48, 2) := by decide +kernel
theorem d_T_readTwo_26 : decode prog_11_method_11_code 26 = .ok (.isub, 1) := by decide +kernel
theorem d_T_readTwo_27 : decode prog_11_method_11_code 27 = .ok (.iload_n 3, 1) := by decide +kernel
theorem d_T_readTwo_28 : decode prog_11_method_11_code 28 = .ok (.if_icmp .ne 5, 3) := by decide +kernel
theorem d_T_readTwo_31 : decode prog_11_method_11_code 31 = .ok (.iconst 0, 1) := by decide +kernel
theorem d_T_readTwo_32 : decode prog_11_method_11_code 32 = .ok (.ireturn, 1) := by decide +kernel
theorem d_T_readTwo_33 : decode prog_11_method_11_code 33 = .ok (.aload_n 0, 1) := by decide +kernel
theorem d_T_readTwo_34 : decode prog_11_method_11_code 34 = .ok (.bipush 6, 2) := by decide +kernel
theorem d_T_readTwo_36 : decode prog_11_method_11_code 36 = .ok (.invokevirtual 67, 3) := by decide +kernel
theorem d_T_readTwo_39 : decode prog_11_method_11_code 39 = .ok (.istore 4, 2) := by decide +kernel
theorem d_T_readTwo_41 : decode prog_11_method_11_code 41 = .ok (.iload 4, 2) := by decide +kernel
theorem d_T_readTwo_43 : decode prog_11_method_11_code 43 = .ok (.iconst (-1), 1) := by decide +kernel
theorem d_T_readTwo_44 : decode prog_11_method_11_code 44 = .ok (.if_icmp .ne 5, 3) := by decide +kernel
theorem d_T_readTwo_47 : decode prog_11_method_11_code 47 = .ok (.iconst 0, 1) := by decide +kernel
theorem d_T_readTwo_48 : decode prog_11_method_11_code 48 = .ok (.ireturn, 1) := by decide +kernel
theorem d_T_readTwo_49 : decode prog_11_method_11_code 49 = .ok (.aload_n 2, 1) := by decide +kernel
theorem d_T_readTwo_50 : decode prog_11_method_11_code 50 = .ok (.iload_n 3, 1) := by decide +kernel
theorem d_T_readTwo_51 : decode prog_11_method_11_code 51 = .ok (.dup2, 1) := by decide +kernel
theorem d_T_readTwo_52 : decode prog_11_method_11_code 52 = .ok (.iaload, 1) := by decide +kernel
theorem d_T_readTwo_53 : decode prog_11_method_11_code 53 = .ok (.iconst 1, 1) := by decide +kernel
theorem d_T_readTwo_54 : decode prog_11_method_11_code 54 = .ok (.iload 4, 2) := by decide +kernel
theorem d_T_readTwo_56 : decode prog_11_method_11_code 56 = .ok (.ishl, 1) := by decide +kernel
theorem d_T_readTwo_57 : decode prog_11_method_11_code 57 = .ok (.ior, 1) := by decide +kernel
theorem d_T_readTwo_58 : decode prog_11_method_11_code 58 = .ok (.iastore, 1) := by decide +kernel
theorem d_T_readTwo_59 : decode prog_11_method_11_code 59 = .ok (.aload_n 2, 1) := by decide +kernel
theorem d_T_readTwo_60 : decode prog_11_method_11_code 60 = .ok (.iload 4, 2) := by decide +kernel
theorem d_T_readTwo_62 : decode prog_11_method_11_code 62 = .ok (.dup2, 1) := by decide +kernel
theorem d_T_readTwo_63 : decode prog_11_method_11_code 63 = .ok (.iaload, 1) := by decide +kernel
theorem d_T_readTwo_64 : decode prog_11_method_11_code 64 = .ok (.iconst 1, 1) := by decide +kernel
theorem d_T_readTwo_65 : decode prog_11_method_11_code 65 = .ok (.iload_n 3, 1) := by decide +kernel
theorem d_T_readTwo_66 : decode prog_11_method_11_code 66 = .ok (.ishl, 1) := by decide +kernel
theorem d_T_readTwo_67 : decode prog_11_method_11_code 67 = .ok (.ior, 1) := by decide +kernel
theorem d_T_readTwo_68 : decode prog_11_method_11_code 68 = .ok (.iastore, 1) := by decide +kernel
theorem d_T_readTwo_69 : decode prog_11_method_11_code 69 = .ok (.iconst 1, 1) := by decide +kernel
theorem d_T_readTwo_70 : decode prog_11_method_11_code 70 = .ok (.ireturn, 1) := by decide +kernel
theorem d_T_readLine_0 : decode prog_11_method_6_code 0 = .ok (.aload_n 0, 1) := by decide +kernel
theorem d_T_readLine_1 : decode prog_11_method_6_code 1 = .ok (.invokevirtual 35, 3) := by decide +kernel
theorem d_T_readLine_4 : decode prog_11_method_6_code 4 = .ok (.istore_n 1, 1) := by decide +kernel
theorem d_T_readLine_5 : decode prog_11_method_6_code 5 = .ok (.iload_n 1, 1) := by decide +kernel
theorem d_T_readLine_6 : decode prog_11_method_6_code 6 = .ok (.lookupswitch 152 #[(99, 58), (107, 89), (113, 58), (114, 74), (119, 104), (120, 128)], 58) := by decide +kernel
theorem d_T_readLine_64 : decode prog_11_method_6_code 64 = .ok (.aload_n 0, 1) := by decide +kernel
theorem d_T_readLine_65 : decode prog_11_method_6_code 65 = .ok (.dup, 1) := by decide +kernel
theorem d_T_readLine_66 : decode prog_11_method_6_code 66 = .ok (.getfield 28, 3) := by decide +kernel
theorem d_T_readLine_69 : decode prog_11_method_6_code 69 = .ok (.iconst 1, 1) := by decide +kernel
theorem d_T_readLine_70 : decode prog_11_method_6_code 70 = .ok (.iadd, 1) := by decide +kernel
theorem d_T_readLine_71 : decode prog_11_method_6_code 71 = .ok (.putfield 28, 3) := by decide +kernel
theorem d_T_readLine_74 : decode prog_11_method_6_code 74 = .ok (.aload_n 0, 1) := by decide +kernel
theorem d_T_readLine_75 : decode prog_11_method_6_code 75 = .ok (.iload_n 1, 1) := by decide +kernel
theorem d_T_readLine_76 : decode prog_11_method_6_code 76 = .ok (.invokevirtual 47, 3) := by decide +kernel
theorem d_T_readLine_79 : decode prog_11_method_6_code 79 = .ok (.ireturn, 1) := by decide +kernel
theorem d_T_readLine_80 : decode prog_11_method_6_code 80 = .ok (.aload_n 0, 1) := by decide +kernel
theorem d_T_readLine_81 : decode prog_11_method_6_code 81 = .ok (.dup, 1) := by decide +kernel
theorem d_T_readLine_82 : decode prog_11_method_6_code 82 = .ok (.getfield 28, 3) := by decide +kernel
theorem d_T_readLine_85 : decode prog_11_method_6_code 85 = .ok (.iconst 1, 1) := by decide +kernel
theorem d_T_readLine_86 : decode prog_11_method_6_code 86 = .ok (.iadd, 1) := by decide +kernel
theorem d_T_readLine_87 : decode prog_11_method_6_code 87 = .ok (.putfield 28, 3) := by decide +kernel
theorem d_T_readLine_90 : decode prog_11_method_6_code 90 = .ok (.aload_n 0, 1) := by decide +kernel
theorem d_T_readLine_91 : decode prog_11_method_6_code 91 = .ok (.invokevirtual 50, 3) := by decide +kernel
theorem d_T_readLine_94 : decode prog_11_method_6_code 94 = .ok (.ireturn, 1) := by decide +kernel
theorem d_T_readLine_95 : decode prog_11_method_6_code 95 = .ok (.aload_n 0, 1) := by decide +kernel
theorem d_T_readLine_96 : decode prog_11_method_6_code 96 = .ok (.dup, 1) := by decide +kernel
theorem d_T_readLine_97 : decode prog_11_method_6_code 97 = .ok (.getfield 28, 3) := by decide +kernel
theorem d_T_readLine_100 : decode prog_11_method_6_code 100 = .ok (.iconst 1, 1) := by decide +kernel
theorem d_T_readLine_101 : decode prog_11_method_6_code 101 = .ok (.iadd, 1) := by decide +kernel
theorem d_T_readLine_102 : decode prog_11_method_6_code 102 = .ok (.putfield 28, 3) := by decide +kernel
theorem d_T_readLine_105 : decode prog_11_method_6_code 105 = .ok (.aload_n 0, 1) := by decide +kernel
theorem d_T_readLine_106 : decode prog_11_method_6_code 106 = .ok (.invokevirtual 53, 3) := by decide +kernel
theorem d_T_readLine_109 : decode prog_11_method_6_code 109 = .ok (.ireturn, 1) := by decide +kernel
theorem d_T_readLine_110 : decode prog_11_method_6_code 110 = .ok (.aload_n 0, 1) := by decide +kernel
theorem d_T_readLine_111 : decode prog_11_method_6_code 111 = .ok (.dup, 1) := by decide +kernel
theorem d_T_readLine_112 : decode prog_11_method_6_code 112 = .ok (.getfield 28, 3) := by decide +kernel
theorem d_T_readLine_115 : decode prog_11_method_6_code 115 = .ok (.iconst 1, 1) := by decide +kernel
theorem d_T_readLine_116 : decode prog_11_method_6_code 116 = .ok (.iadd, 1) := by decide +kernel
theorem d_T_readLine_117 : decode prog_11_method_6_code 117 = .ok (.putfield 28, 3) := by decide +kernel
theorem d_T_readLine_120 : decode prog_11_method_6_code 120 = .ok (.aload_n 0, 1) := by decide +kernel
theorem d_T_readLine_121 : decode prog_11_method_6_code 121 = .ok (.bipush 38, 2) := by decide +kernel
theorem d_T_readLine_123 : decode prog_11_method_6_code 123 = .ok (.aload_n 0, 1) := by decide +kernel
theorem d_T_readLine_124 : decode prog_11_method_6_code 124 = .ok (.getfield 19, 3) := by decide +kernel
theorem d_T_readLine_127 : decode prog_11_method_6_code 127 = .ok (.getfield 56, 3) := by decide +kernel
theorem d_T_readLine_130 : decode prog_11_method_6_code 130 = .ok (.invokevirtual 60, 3) := by decide +kernel
theorem d_T_readLine_133 : decode prog_11_method_6_code 133 = .ok (.ireturn, 1) := by decide +kernel
theorem d_T_readLine_134 : decode prog_11_method_6_code 134 = .ok (.aload_n 0, 1) := by decide +kernel
theorem d_T_readLine_135 : decode prog_11_method_6_code 135 = .ok (.dup, 1) := by decide +kernel
theorem d_T_readLine_136 : decode prog_11_method_6_code 136 = .ok (.getfield 28, 3) := by decide +kernel
theorem d_T_readLine_139 : decode prog_11_method_6_code 139 = .ok (.iconst 1, 1) := by decide +kernel
theorem d_T_readLine_140 : decode prog_11_method_6_code 140 = .ok (.iadd, 1) := by decide +kernel
theorem d_T_readLine_141 : decode prog_11_method_6_code 141 = .ok (.putfield 28, 3) := by decide +kernel
theorem d_T_readLine_144 : decode prog_11_method_6_code 144 = .ok (.aload_n 0, 1) := by decide +kernel
theorem d_T_readLine_145 : decode prog_11_method_6_code 145 = .ok (.bipush 124, 2) := by decide +kernel
theorem d_T_readLine_147 : decode prog_11_method_6_code 147 = .ok (.aload_n 0, 1) := by decide +kernel
theorem d_T_readLine_148 : decode prog_11_method_6_code 148 = .ok (.getfield 19, 3) := by decide +kernel
theorem d_T_readLine_151 : decode prog_11_method_6_code 151 = .ok (.getfield 64, 3) := by decide +kernel
theorem d_T_readLine_154 : decode prog_11_method_6_code 154 = .ok (.invokevirtual 60, 3) := by decide +kernel
theorem d_T_readLine_157 : decode prog_11_method_6_code 157 = .ok (.ireturn, 1) := by decide +kernel
theorem d_T_readLine_158 : decode prog_11_method_6_code 158 = .ok (.iconst 0, 1) := by decide +kernel
theorem d_T_readLine_159 : decode prog_11_method_6_code 159 = .ok (.ireturn, 1) := by decide +kernel
theorem d_T_read_0 : decode prog_11_method_3_code 0 = .ok (.aload_n 0, 1) := by decide +kernel
theorem d_T_read_1 : decode prog_11_method_3_code 1 = .ok (.aload_n 1, 1) := by decide +kernel
theorem d_T_read_2 : decode prog_11_method_3_code 2 = .ok (.putfield 19, 3) := by decide +kernel
theorem d_T_read_5 : decode prog_11_method_3_code 5 = .ok (.aload_n 0, 1) := by decide +kernel
theorem d_T_read_6 : decode prog_11_method_3_code 6 = .ok (.getfield 19, 3) := by decide +kernel
theorem d_T_read_9 : decode prog_11_method_3_code 9 = .ok (.invokevirtual 23, 3) := by decide +kernel
theorem d_T_read_12 : decode prog_11_method_3_code 12 = .ok (.aload_n 0, 1) := by decide +kernel
theorem d_T_read_13 : decode prog_11_method_3_code 13 = .ok (.iconst 0, 1) := by decide +kernel
theorem d_T_read_14 : decode prog_11_method_3_code 14 = .ok (.putfield 28, 3) := by decide +kernel
theorem d_T_read_17 : decode prog_11_method_3_code 17 = .ok (.iconst 1, 1) := by decide +kernel
theorem d_T_read_18 : decode prog_11_method_3_code 18 = .ok (.istore_n 2, 1) := by decide +kernel
theorem d_T_read_19 : decode prog_11_method_3_code 19 = .ok (.iload_n 2, 1) := by decide +kernel
theorem d_T_read_20 : decode prog_11_method_3_code 20 = .ok (.bipush 60, 2) := by decide +kernel
theorem d_T_read_22 : decode prog_11_method_3_code 22 = .ok (.if_icmp .gt 57, 3) := by decide +kernel
theorem d_T_read_25 : decode prog_11_method_3_code 25 = .ok (.aload_n 0, 1) := by decide +kernel
theorem d_T_read_26 : decode prog_11_method_3_code 26 = .ok (.invokevirtual 31, 3) := by decide +kernel
theorem d_T_read_29 : decode prog_11_method_3_code 29 = .ok (.ifCond .ne 10, 3) := by decide +kernel
theorem d_T_read_32 : decode prog_11_method_3_code 32 = .ok (.iconst (-1), 1) := by decide +kernel
theorem d_T_read_33 : decode prog_11_method_3_code 33 = .ok (.aload_n 0, 1) := by decide +kernel
theorem d_T_read_34 : decode prog_11_method_3_code 34 = .ok (.getfield 28, 3) := by decide +kernel
theorem d_T_read_37 : decode prog_11_method_3_code 37 = .ok (.isub, 1) := by decide +kernel
theorem d_T_read_38 : decode prog_11_method_3_code 38 = .ok (.ireturn, 1) := by decide +kernel
theorem d_T_read_39 : decode prog_11_method_3_code 39 = .ok (.aload_n 0, 1) := by decide +kernel
theorem d_T_read_40 : decode prog_11_method_3_code 40 = .ok (.invokevirtual 35, 3) := by decide +kernel
theorem d_T_read_43 : decode prog_11_method_3_code 43 = .ok (.iconst (-1), 1) := by decide +kernel
theorem d_T_read_44 : decode prog_11_method_3_code 44 = .ok (.if_icmp .ne 13, 3) := by decide +kernel
theorem d_T_read_47 : decode prog_11_method_3_code 47 = .ok (.aload_n 0, 1) := by decide +kernel
theorem d_T_read_48 : decode prog_11_method_3_code 48 = .ok (.getfield 19, 3) := by decide +kernel
theorem d_T_read_51 : decode prog_11_method_3_code 51 = .ok (.iconst 1, 1) := by decide +kernel
theorem d_T_read_52 : decode prog_11_method_3_code 52 = .ok (.putfield 39, 3) := by decide +kernel
theorem d_T_read_55 : decode prog_11_method_3_code 55 = .ok (.iload_n 2, 1) := by decide +kernel
theorem d_T_read_56 : decode prog_11_method_3_code 56 = .ok (.ireturn, 1) := by decide +kernel
theorem d_T_read_57 : decode prog_11_method_3_code 57 = .ok (.aload_n 0, 1) := by decide +kernel
theorem d_T_read_58 : decode prog_11_method_3_code 58 = .ok (.bipush 59, 2) := by decide +kernel
theorem d_T_read_60 : decode prog_11_method_3_code 60 = .ok (.invokevirtual 43, 3) := by decide +kernel
theorem d_T_read_63 : decode prog_11_method_3_code 63 = .ok (.ifCond .ne 10, 3) := by decide +kernel
theorem d_T_read_66 : decode prog_11_method_3_code 66 = .ok (.iconst (-1), 1) := by decide +kernel
theorem d_T_read_67 : decode prog_11_method_3_code 67 = .ok (.aload_n 0, 1) := by decide +kernel
theorem d_T_read_68 : decode prog_11_method_3_code 68 = .ok (.getfield 28, 3) := by decide +kernel
theorem d_T_read_71 : decode prog_11_method_3_code 71 = .ok (.isub, 1) := by decide +kernel
theorem d_T_read_72 : decode prog_11_method_3_code 72 = .ok (.ireturn, 1) := by decide +kernel
theorem d_T_read_73 : decode prog_11_method_3_code 73 = .ok (.iinc 2 1, 3) := by decide +kernel
theorem d_T_read_76 : decode prog_11_method_3_code 76 = .ok (.goto (-57), 3) := by decide +kernel
theorem d_T_read_79 : decode prog_11_method_3_code 79 = .ok (.iconst (-1), 1) := by decide +kernel
theorem d_T_read_80 : decode prog_11_method_3_code 80 = .ok (.aload_n 0, 1) := by decide +kernel
theorem d_T_read_81 : decode prog_11_method_3_code 81 = .ok (.getfield 28, 3) := by decide +kernel
theorem d_T_read_84 : decode prog_11_method_3_code 84 = .ok (.isub, 1) := by decide +kernel
theorem d_T_read_85 : decode prog_11_method_3_code 85 = .ok (.ireturn, 1) := by decide +kernel
