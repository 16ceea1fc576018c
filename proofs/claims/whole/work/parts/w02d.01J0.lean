theorem d_J_fill_0 : decode prog_26_method_103_code 0 = .ok (.iconst 0, 1) := by decide +kernel
theorem d_J_fill_1 : decode prog_26_method_103_code 1 = .ok (.istore_n 2, 1) := by decide +kernel
theorem d_J_fill_2 : decode prog_26_method_103_code 2 = .ok (.aload_n 0, 1) := by decide +kernel
theorem d_J_fill_3 : decode prog_26_method_103_code 3 = .ok (.arraylength, 1) := by decide +kernel
theorem d_J_fill_4 : decode prog_26_method_103_code 4 = .ok (.istore_n 3, 1) := by decide +kernel
theorem d_J_fill_5 : decode prog_26_method_103_code 5 = .ok (.iload_n 2, 1) := by decide +kernel
theorem d_J_fill_6 : decode prog_26_method_103_code 6 = .ok (.iload_n 3, 1) := by decide +kernel
theorem d_J_fill_7 : decode prog_26_method_103_code 7 = .ok (.if_icmp .ge 13, 3) := by decide +kernel
theorem d_J_fill_10 : decode prog_26_method_103_code 10 = .ok (.aload_n 0, 1) := by decide +kernel
theorem d_J_fill_11 : decode prog_26_method_103_code 11 = .ok (.iload_n 2, 1) := by decide +kernel
theorem d_J_fill_12 : decode prog_26_method_103_code 12 = .ok (.iload_n 1, 1) := by decide +kernel
theorem d_J_fill_13 : decode prog_26_method_103_code 13 = .ok (.iastore, 1) := by decide +kernel
theorem d_J_fill_14 : decode prog_26_method_103_code 14 = .ok (.iinc 2 1, 3) := by decide +kernel
theorem d_J_fill_17 : decode prog_26_method_103_code 17 = .ok (.goto (-12), 3) := by decide +kernel
theorem d_J_fill_20 : decode prog_26_method_103_code 20 = .ok (.return_, 1) := by decide +kernel
theorem d_J_numberOfTrailingZeros_0 : decode prog_18_method_48_code 0 = .ok (.iload_n 0, 1) := by decide +kernel
theorem d_J_numberOfTrailingZeros_1 : decode prog_18_method_48_code 1 = .ok (.iconst (-1), 1) := by decide +kernel
theorem d_J_numberOfTrailingZeros_2 : decode prog_18_method_48_code 2 = .ok (.ixor, 1) := by decide +kernel
theorem d_J_numberOfTrailingZeros_3 : decode prog_18_method_48_code 3 = .ok (.iload_n 0, 1) := by decide +kernel
theorem d_J_numberOfTrailingZeros_4 : decode prog_18_method_48_code 4 = .ok (.iconst 1, 1) := by decide +kernel
theorem d_J_numberOfTrailingZeros_5 : decode prog_18_method_48_code 5 = .ok (.isub, 1) := by decide +kernel
theorem d_J_numberOfTrailingZeros_6 : decode prog_18_method_48_code 6 = .ok (.iand, 1) := by decide +kernel
theorem d_J_numberOfTrailingZeros_7 : decode prog_18_method_48_code 7 = .ok (.istore_n 0, 1) := by decide +kernel
theorem d_J_numberOfTrailingZeros_8 : decode prog_18_method_48_code 8 = .ok (.iload_n 0, 1) := by decide +kernel
theorem d_J_numberOfTrailingZeros_9 : decode prog_18_method_48_code 9 = .ok (.ifCond .gt 8, 3) := by decide +kernel
theorem d_J_numberOfTrailingZeros_12 : decode prog_18_method_48_code 12 = .ok (.iload_n 0, 1) := by decide +kernel
theorem d_J_numberOfTrailingZeros_13 : decode prog_18_method_48_code 13 = .ok (.bipush 32, 2) := by decide +kernel
theorem d_J_numberOfTrailingZeros_15 : decode prog_18_method_48_code 15 = .ok (.iand, 1) := by decide +kernel
theorem d_J_numberOfTrailingZeros_16 : decode prog_18_method_48_code 16 = .ok (.ireturn, 1) := by decide +kernel
theorem d_J_numberOfTrailingZeros_17 : decode prog_18_method_48_code 17 = .ok (.iconst 1, 1) := by decide +kernel
theorem d_J_numberOfTrailingZeros_18 : decode prog_18_method_48_code 18 = .ok (.istore_n 1, 1) := by decide +kernel
theorem d_J_numberOfTrailingZeros_19 : decode prog_18_method_48_code 19 = .ok (.iload_n 0, 1) := by decide +kernel
theorem d_J_numberOfTrailingZeros_20 : decode prog_18_method_48_code 20 = .ok (.ldc_w 264, 3) := by decide +kernel
theorem d_J_numberOfTrailingZeros_23 : decode prog_18_method_48_code 23 = .ok (.if_icmp .le 11, 3) := by decide +kernel
theorem d_J_numberOfTrailingZeros_26 : decode prog_18_method_48_code 26 = .ok (.iinc 1 16, 3) := by decide +kernel
theorem d_J_numberOfTrailingZeros_29 : decode prog_18_method_48_code 29 = .ok (.iload_n 0, 1) := by decide +kernel
theorem d_J_numberOfTrailingZeros_30 : decode prog_18_method_48_code 30 = .ok (.bipush 16, 2) := by decide +kernel
theorem d_J_numberOfTrailingZeros_32 : decode prog_18_method_48_code 32 = .ok (.iushr, 1) := by decide +kernel
theorem d_J_numberOfTrailingZeros_33 : decode prog_18_method_48_code 33 = .ok (.istore_n 0, 1) := by decide +kernel
theorem d_J_numberOfTrailingZeros_34 : decode prog_18_method_48_code 34 = .ok (.iload_n 0, 1) := by decide +kernel
theorem d_J_numberOfTrailingZeros_35 : decode prog_18_method_48_code 35 = .ok (.sipush 256, 3) := by decide +kernel
theorem d_J_numberOfTrailingZeros_38 : decode prog_18_method_48_code 38 = .ok (.if_icmp .le 11, 3) := by decide +kernel
theorem d_J_numberOfTrailingZeros_41 : decode prog_18_method_48_code 41 = .ok (.iinc 1 8, 3) := by decide +kernel
theorem d_J_numberOfTrailingZeros_44 : decode prog_18_method_48_code 44 = .ok (.iload_n 0, 1) := by decide +kernel
theorem d_J_numberOfTrailingZeros_45 : decode prog_18_method_48_code 45 = .ok (.bipush 8, 2) := by decide +kernel
theorem d_J_numberOfTrailingZeros_47 : decode prog_18_method_48_code 47 = .ok (.iushr, 1) := by decide +kernel
theorem d_J_numberOfTrailingZeros_48 : decode prog_18_method_48_code 48 = .ok (.istore_n 0, 1) := by decide +kernel
theorem d_J_numberOfTrailingZeros_49 : decode prog_18_method_48_code 49 = .ok (.iload_n 0, 1) := by decide +kernel
theorem d_J_numberOfTrailingZeros_50 : decode prog_18_method_48_code 50 = .ok (.bipush 16, 2) := by decide +kernel
theorem d_J_numberOfTrailingZeros_52 : decode prog_18_method_48_code 52 = .ok (.if_icmp .le 10, 3) := by decide +kernel
theorem d_J_numberOfTrailingZeros_55 : decode prog_18_method_48_code 55 = .ok (.iinc 1 4, 3) := by decide +kernel
theorem d_J_numberOfTrailingZeros_58 : decode prog_18_method_48_code 58 = .ok (.iload_n 0, 1) := by decide +kernel
theorem d_J_numberOfTrailingZeros_59 : decode prog_18_method_48_code 59 = .ok (.iconst 4, 1) := by decide +kernel
theorem d_J_numberOfTrailingZeros_60 : decode prog_18_method_48_code 60 = .ok (.iushr, 1) := by decide +kernel
theorem d_J_numberOfTrailingZeros_61 : decode prog_18_method_48_code 61 = .ok (.istore_n 0, 1) := by decide +kernel
theorem d_J_numberOfTrailingZeros_62 : decode prog_18_method_48_code 62 = .ok (.iload_n 0, 1) := by decide +kernel
theorem d_J_numberOfTrailingZeros_63 : decode prog_18_method_48_code 63 = .ok (.iconst 4, 1) := by decide +kernel
theorem d_J_numberOfTrailingZeros_64 : decode prog_18_method_48_code 64 = .ok (.if_icmp .le 10, 3) := by decide +kernel
theorem d_J_numberOfTrailingZeros_67 : decode prog_18_method_48_code 67 = .ok (.iinc 1 2, 3) := by decide +kernel
theorem d_J_numberOfTrailingZeros_70 : decode prog_18_method_48_code 70 = .ok (.iload_n 0, 1) := by decide +kernel
theorem d_J_numberOfTrailingZeros_71 : decode prog_18_method_48_code 71 = .ok (.iconst 2, 1) := by decide +kernel
theorem d_J_numberOfTrailingZeros_72 : decode prog_18_method_48_code 72 = .ok (.iushr, 1) := by decide +kernel
theorem d_J_numberOfTrailingZeros_73 : decode prog_18_method_48_code 73 = .ok (.istore_n 0, 1) := by decide +kernel
theorem d_J_numberOfTrailingZeros_74 : decode prog_18_method_48_code 74 = .ok (.iload_n 1, 1) := by decide +kernel
theorem d_J_numberOfTrailingZeros_75 : decode prog_18_method_48_code 75 = .ok (.iload_n 0, 1) := by decide +kernel
theorem d_J_numberOfTrailingZeros_76 : decode prog_18_method_48_code 76 = .ok (.iconst 1, 1) := by decide +kernel
theorem d_J_numberOfTrailingZeros_77 : decode prog_18_method_48_code 77 = .ok (.iushr, 1) := by decide +kernel
theorem d_J_numberOfTrailingZeros_78 : decode prog_18_method_48_code 78 = .ok (.iadd, 1) := by decide +kernel
theorem d_J_numberOfTrailingZeros_79 : decode prog_18_method_48_code 79 = .ok (.ireturn, 1) := by decide +kernel
theorem d_J_bitCount_0 : decode prog_18_method_49_code 0 = .ok (.iload_n 0, 1) := by decide +kernel
theorem d_J_bitCount_1 : decode prog_18_method_49_code 1 = .ok (.iload_n 0, 1) := by decide +kernel
theorem d_J_bitCount_2 : decode prog_18_method_49_code 2 = .ok (.iconst 1, 1) := by decide +kernel
theorem d_J_bitCount_3 : decode prog_18_method_49_code 3 = .ok (.iushr, 1) := by decide +kernel
theorem d_J_bitCount_4 : decode prog_18_method_49_code 4 = .ok (.ldc_w 265, 3) := by decide +kernel
theorem d_J_bitCount_7 : decode prog_18_method_49_code 7 = .ok (.iand, 1) := by decide +kernel
theorem d_J_bitCount_8 : decode prog_18_method_49_code 8 = .ok (.isub, 1) := by decide +kernel
theorem d_J_bitCount_9 : decode prog_18_method_49_code 9 = .ok (.istore_n 0, 1) := by decide +kernel
theorem d_J_bitCount_10 : decode prog_18_method_49_code 10 = .ok (.iload_n 0, 1) := by decide +kernel
theorem d_J_bitCount_11 : decode prog_18_method_49_code 11 = .ok (.ldc_w 266, 3) := by decide +kernel
theorem d_J_bitCount_14 : decode prog_18_method_49_code 14 = .ok (.iand, 1) := by decide +kernel
theorem d_J_bitCount_15 : decode prog_18_method_49_code 15 = .ok (.iload_n 0, 1) := by decide +kernel
theorem d_J_bitCount_16 : decode prog_18_method_49_code 16 = .ok (.iconst 2, 1) := by decide +kernel
theorem d_J_bitCount_17 : decode prog_18_method_49_code 17 = .ok (.iushr, 1) := by decide +kernel
theorem d_J_bitCount_18 : decode prog_18_method_49_code 18 = .ok (.ldc_w 266, 3) := by decide +kernel
theorem d_J_bitCount_21 : decode prog_18_method_49_code 21 = .ok (.iand, 1) := by decide +kernel
theorem d_J_bitCount_22 : decode prog_18_method_49_code 22 = .ok (.iadd, 1) := by decide +kernel
theorem d_J_bitCount_23 : decode prog_18_method_49_code 23 = .ok (.istore_n 0, 1) := by decide +kernel
theorem d_J_bitCount_24 : decode prog_18_method_49_code 24 = .ok (.iload_n 0, 1) := by decide +kernel
theorem d_J_bitCount_25 : decode prog_18_method_49_code 25 = .ok (.iload_n 0, 1) := by decide +kernel
theorem d_J_bitCount_26 : decode prog_18_method_49_code 26 = .ok (.iconst 4, 1) := by decide +kernel
theorem d_J_bitCount_27 : decode prog_18_method_49_code 27 = .ok (.iushr, 1) := by decide +kernel
theorem d_J_bitCount_28 : decode prog_18_method_49_code 28 = .ok (.iadd, 1) := by decide +kernel
theorem d_J_bitCount_29 : decode prog_18_method_49_code 29 = .ok (.ldc_w 267, 3) := by decide +kernel
theorem d_J_bitCount_32 : decode prog_18_method_49_code 32 = .ok (.iand, 1) := by decide +kernel
theorem d_J_bitCount_33 : decode prog_18_method_49_code 33 = .ok (.istore_n 0, 1) := by decide +kernel
theorem d_J_bitCount_34 : decode prog_18_method_49_code 34 = .ok (.iload_n 0, 1) := by decide +kernel
theorem d_J_bitCount_35 : decode prog_18_method_49_code 35 = .ok (.iload_n 0, 1) := by decide +kernel
theorem d_J_bitCount_36 : decode prog_18_method_49_code 36 = .ok (.bipush 8, 2) := by decide +kernel
theorem d_J_bitCount_38 : decode prog_18_method_49_code 38 = .ok (.iushr, 1) := by decide +kernel
theorem d_J_bitCount_39 : decode prog_18_method_49_code 39 = .ok (.iadd, 1) := by decide +kernel
theorem d_J_bitCount_40 : decode prog_18_method_49_code 40 = .ok (.istore_n 0, 1) := by decide +kernel
theorem d_J_bitCount_41 : decode prog_18_method_49_code 41 = .ok (.iload_n 0, 1) := by decide +kernel
theorem d_J_bitCount_42 : decode prog_18_method_49_code 42 = .ok (.iload_n 0, 1) := by decide +kernel
theorem d_J_bitCount_43 : decode prog_18_method_49_code 43 = .ok (.bipush 16, 2) := by decide +kernel
theorem d_J_bitCount_45 : decode prog_18_method_49_code 45 = .ok (.iushr, 1) := by decide +kernel
theorem d_J_bitCount_46 : decode prog_18_method_49_code 46 = .ok (.iadd, 1) := by decide +kernel
theorem d_J_bitCount_47 : decode prog_18_method_49_code 47 = .ok (.istore_n 0, 1) := by decide +kernel
theorem d_J_bitCount_48 : decode prog_18_method_49_code 48 = .ok (.iload_n 0, 1) := by decide +kernel
theorem d_J_bitCount_49 : decode prog_18_method_49_code 49 = .ok (.bipush 63, 2) := by decide +kernel
theorem d_J_bitCount_51 : decode prog_18_method_49_code 51 = .ok (.iand, 1) := by decide +kernel
theorem d_J_bitCount_52 : decode prog_18_method_49_code 52 = .ok (.ireturn, 1) := by decide +kernel
theorem d_J_copyOf_0 : decode prog_26_method_123_code 0 = .ok (.iload_n 1, 1) := by decide +kernel
theorem d_J_copyOf_1 : decode prog_26_method_123_code 1 = .ok (.aload_n 0, 1) := by decide +kernel
theorem d_J_copyOf_2 : decode prog_26_method_123_code 2 = .ok (.arraylength, 1) := by decide +kernel
theorem d_J_copyOf_3 : decode prog_26_method_123_code 3 = .ok (.if_icmp .ne 11, 3) := by decide +kernel
theorem d_J_copyOf_6 : decode prog_26_method_123_code 6 = .ok (.aload_n 0, 1) := by decide +kernel
theorem d_J_copyOf_7 : decode prog_26_method_123_code 7 = .ok (.invokevirtual 316, 3) := by decide +kernel
theorem d_J_copyOf_13 : decode prog_26_method_123_code 13 = .ok (.areturn, 1) := by decide +kernel
theorem d_J_copyOf_14 : decode prog_26_method_123_code 14 = .ok (.iload_n 1, 1) := by decide +kernel
theorem d_J_copyOf_15 : decode prog_26_method_123_code 15 = .ok (.newarray .int, 2) := by decide +kernel
theorem d_J_copyOf_17 : decode prog_26_method_123_code 17 = .ok (.astore_n 2, 1) := by decide +kernel
theorem d_J_copyOf_18 : decode prog_26_method_123_code 18 = .ok (.aload_n 0, 1) := by decide +kernel
theorem d_J_copyOf_19 : decode prog_26_method_123_code 19 = .ok (.iconst 0, 1) := by decide +kernel
theorem d_J_copyOf_20 : decode prog_26_method_123_code 20 = .ok (.aload_n 2, 1) := by decide +kernel
theorem d_J_copyOf_21 : decode prog_26_method_123_code 21 = .ok (.iconst 0, 1) := by decide +kernel
theorem d_J_copyOf_22 : decode prog_26_method_123_code 22 = .ok (.aload_n 0, 1) := by decide +kernel
theorem d_J_copyOf_23 : decode prog_26_method_123_code 23 = .ok (.arraylength, 1) := by decide +kernel
theorem d_J_copyOf_24 : decode prog_26_method_123_code 24 = .ok (.iload_n 1, 1) := by decide +kernel
theorem d_J_copyOf_25 : decode prog_26_method_123_code 25 = .ok (.invokestatic 304, 3) := by decide +kernel
theorem d_J_copyOf_28 : decode prog_26_method_123_code 28 = .ok (.invokestatic 150, 3) := by decide +kernel
theorem d_J_copyOf_31 : decode prog_26_method_123_code 31 = .ok (.aload_n 2, 1) := by decide +kernel
theorem d_J_copyOf_32 : decode prog_26_method_123_code 32 = .ok (.areturn, 1) := by decide +kernel
