theorem d_S_same_96 : decode prog_1_method_30_code 96 = .ok (.iload_n 2, 1) := by decide +kernel
theorem d_S_same_97 : decode prog_1_method_30_code 97 = .ok (.ireturn, 1) := by decide +kernel
theorem d_S_greatestDivisor_0 : decode prog_1_method_33_code 0 = .ok (.iload_n 0, 1) := by decide +kernel
theorem d_S_greatestDivisor_1 : decode prog_1_method_33_code 1 = .ok (.istore_n 2, 1) := by decide +kernel
theorem d_S_greatestDivisor_2 : decode prog_1_method_33_code 2 = .ok (.iload_n 1, 1) := by decide +kernel
theorem d_S_greatestDivisor_3 : decode prog_1_method_33_code 3 = .ok (.istore_n 3, 1) := by decide +kernel
theorem d_S_greatestDivisor_4 : decode prog_1_method_33_code 4 = .ok (.iconst 0, 1) := by decide +kernel
theorem d_S_greatestDivisor_5 : decode prog_1_method_33_code 5 = .ok (.istore 4, 2) := by decide +kernel
theorem d_S_greatestDivisor_7 : decode prog_1_method_33_code 7 = .ok (.iload 4, 2) := by decide +kernel
theorem d_S_greatestDivisor_9 : decode prog_1_method_33_code 9 = .ok (.bipush 64, 2) := by decide +kernel
theorem d_S_greatestDivisor_11 : decode prog_1_method_33_code 11 = .ok (.if_icmp .ge 23, 3) := by decide +kernel
theorem d_S_greatestDivisor_14 : decode prog_1_method_33_code 14 = .ok (.iload_n 3, 1) := by decide +kernel
theorem d_S_greatestDivisor_15 : decode prog_1_method_33_code 15 = .ok (.ifCond .eq 19, 3) := by decide +kernel
theorem d_S_greatestDivisor_18 : decode prog_1_method_33_code 18 = .ok (.iload_n 2, 1) := by decide +kernel
theorem d_S_greatestDivisor_19 : decode prog_1_method_33_code 19 = .ok (.iload_n 3, 1) := by decide +kernel
theorem d_S_greatestDivisor_20 : decode prog_1_method_33_code 20 = .ok (.irem, 1) := by decide +kernel
theorem d_S_greatestDivisor_21 : decode prog_1_method_33_code 21 = .ok (.istore 5, 2) := by decide +kernel
theorem d_S_greatestDivisor_23 : decode prog_1_method_33_code 23 = .ok (.iload_n 3, 1) := by decide +kernel
theorem d_S_greatestDivisor_24 : decode prog_1_method_33_code 24 = .ok (.istore_n 2, 1) := by decide +kernel
theorem d_S_greatestDivisor_25 : decode prog_1_method_33_code 25 = .ok (.iload 5, 2) := by decide +kernel
theorem d_S_greatestDivisor_27 : decode prog_1_method_33_code 27 = .ok (.istore_n 3, 1) := by decide +kernel
theorem d_S_greatestDivisor_28 : decode prog_1_method_33_code 28 = .ok (.iinc 4 1, 3) := by decide +kernel
theorem d_S_greatestDivisor_31 : decode prog_1_method_33_code 31 = .ok (.goto (-24), 3) := by decide +kernel
theorem d_S_greatestDivisor_34 : decode prog_1_method_33_code 34 = .ok (.iload_n 2, 1) := by decide +kernel
theorem d_S_greatestDivisor_35 : decode prog_1_method_33_code 35 = .ok (.ireturn, 1) := by decide +kernel
theorem d_S_lot_0 : decode prog_1_method_31_code 0 = .ok (.aload_n 0, 1) := by decide +kernel
theorem d_S_lot_1 : decode prog_1_method_31_code 1 = .ok (.getfield 10, 3) := by decide +kernel
theorem d_S_lot_4 : decode prog_1_method_31_code 4 = .ok (.iload_n 1, 1) := by decide +kernel
theorem d_S_lot_5 : decode prog_1_method_31_code 5 = .ok (.invokevirtual 128, 3) := by decide +kernel
theorem d_S_lot_8 : decode prog_1_method_31_code 8 = .ok (.ifCond .ne 5, 3) := by decide +kernel
theorem d_S_lot_11 : decode prog_1_method_31_code 11 = .ok (.iconst (-1), 1) := by decide +kernel
theorem d_S_lot_12 : decode prog_1_method_31_code 12 = .ok (.ireturn, 1) := by decide +kernel
theorem d_S_lot_13 : decode prog_1_method_31_code 13 = .ok (.aload_n 0, 1) := by decide +kernel
theorem d_S_lot_14 : decode prog_1_method_31_code 14 = .ok (.getfield 62, 3) := by decide +kernel
theorem d_S_lot_17 : decode prog_1_method_31_code 17 = .ok (.invokevirtual 281, 3) := by decide +kernel
theorem d_S_lot_20 : decode prog_1_method_31_code 20 = .ok (.aload_n 0, 1) := by decide +kernel
theorem d_S_lot_21 : decode prog_1_method_31_code 21 = .ok (.getfield 62, 3) := by decide +kernel
theorem d_S_lot_24 : decode prog_1_method_31_code 24 = .ok (.getfield 284, 3) := by decide +kernel
theorem d_S_lot_27 : decode prog_1_method_31_code 27 = .ok (.ifCond .ne 6, 3) := by decide +kernel
theorem d_S_lot_30 : decode prog_1_method_31_code 30 = .ok (.bipush (-2), 2) := by decide +kernel
theorem d_S_lot_32 : decode prog_1_method_31_code 32 = .ok (.ireturn, 1) := by decide +kernel
theorem d_S_lot_33 : decode prog_1_method_31_code 33 = .ok (.iconst 0, 1) := by decide +kernel
theorem d_S_lot_34 : decode prog_1_method_31_code 34 = .ok (.istore_n 2, 1) := by decide +kernel
theorem d_S_lot_35 : decode prog_1_method_31_code 35 = .ok (.iconst 0, 1) := by decide +kernel
theorem d_S_lot_36 : decode prog_1_method_31_code 36 = .ok (.istore_n 3, 1) := by decide +kernel
theorem d_S_lot_37 : decode prog_1_method_31_code 37 = .ok (.iload_n 3, 1) := by decide +kernel
theorem d_S_lot_38 : decode prog_1_method_31_code 38 = .ok (.aload_n 0, 1) := by decide +kernel
theorem d_S_lot_39 : decode prog_1_method_31_code 39 = .ok (.getfield 62, 3) := by decide +kernel
theorem d_S_lot_42 : decode prog_1_method_31_code 42 = .ok (.getfield 284, 3) := by decide +kernel
theorem d_S_lot_45 : decode prog_1_method_31_code 45 = .ok (.if_icmp .ge 25, 3) := by decide +kernel
theorem d_S_lot_48 : decode prog_1_method_31_code 48 = .ok (.iload_n 2, 1) := by decide +kernel
theorem d_S_lot_49 : decode prog_1_method_31_code 49 = .ok (.aload_n 0, 1) := by decide +kernel
theorem d_S_lot_50 : decode prog_1_method_31_code 50 = .ok (.getfield 62, 3) := by decide +kernel
theorem d_S_lot_53 : decode prog_1_method_31_code 53 = .ok (.getfield 285, 3) := by decide +kernel
theorem d_S_lot_56 : decode prog_1_method_31_code 56 = .ok (.iload_n 3, 1) := by decide +kernel
theorem d_S_lot_57 : decode prog_1_method_31_code 57 = .ok (.iaload, 1) := by decide +kernel
theorem d_S_lot_58 : decode prog_1_method_31_code 58 = .ok (.iload_n 1, 1) := by decide +kernel
theorem d_S_lot_59 : decode prog_1_method_31_code 59 = .ok (.iushr, 1) := by decide +kernel
theorem d_S_lot_60 : decode prog_1_method_31_code 60 = .ok (.iconst 1, 1) := by decide +kernel
theorem d_S_lot_61 : decode prog_1_method_31_code 61 = .ok (.iand, 1) := by decide +kernel
theorem d_S_lot_62 : decode prog_1_method_31_code 62 = .ok (.iadd, 1) := by decide +kernel
theorem d_S_lot_63 : decode prog_1_method_31_code 63 = .ok (.istore_n 2, 1) := by decide +kernel
theorem d_S_lot_64 : decode prog_1_method_31_code 64 = .ok (.iinc 3 1, 3) := by decide +kernel
theorem d_S_lot_67 : decode prog_1_method_31_code 67 = .ok (.goto (-30), 3) := by decide +kernel
theorem d_S_lot_70 : decode prog_1_method_31_code 70 = .ok (.iload_n 2, 1) := by decide +kernel
theorem d_S_lot_71 : decode prog_1_method_31_code 71 = .ok (.aload_n 0, 1) := by decide +kernel
theorem d_S_lot_72 : decode prog_1_method_31_code 72 = .ok (.getfield 62, 3) := by decide +kernel
theorem d_S_lot_75 : decode prog_1_method_31_code 75 = .ok (.getfield 284, 3) := by decide +kernel
theorem d_S_lot_78 : decode prog_1_method_31_code 78 = .ok (.invokestatic 333, 3) := by decide +kernel
theorem d_S_lot_81 : decode prog_1_method_31_code 81 = .ok (.istore_n 3, 1) := by decide +kernel
theorem d_S_lot_82 : decode prog_1_method_31_code 82 = .ok (.iload_n 3, 1) := by decide +kernel
theorem d_S_lot_83 : decode prog_1_method_31_code 83 = .ok (.ifCond .ne 6, 3) := by decide +kernel
theorem d_S_lot_86 : decode prog_1_method_31_code 86 = .ok (.bipush (-2), 2) := by decide +kernel
theorem d_S_lot_88 : decode prog_1_method_31_code 88 = .ok (.ireturn, 1) := by decide +kernel
theorem d_S_lot_89 : decode prog_1_method_31_code 89 = .ok (.aload_n 0, 1) := by decide +kernel
theorem d_S_lot_90 : decode prog_1_method_31_code 90 = .ok (.iload_n 2, 1) := by decide +kernel
theorem d_S_lot_91 : decode prog_1_method_31_code 91 = .ok (.iload_n 3, 1) := by decide +kernel
theorem d_S_lot_92 : decode prog_1_method_31_code 92 = .ok (.idiv, 1) := by decide +kernel
theorem d_S_lot_93 : decode prog_1_method_31_code 93 = .ok (.aload_n 0, 1) := by decide +kernel
theorem d_S_lot_94 : decode prog_1_method_31_code 94 = .ok (.getfield 62, 3) := by decide +kernel
theorem d_S_lot_97 : decode prog_1_method_31_code 97 = .ok (.getfield 284, 3) := by decide +kernel
theorem d_S_lot_100 : decode prog_1_method_31_code 100 = .ok (.iload_n 3, 1) := by decide +kernel
theorem d_S_lot_101 : decode prog_1_method_31_code 101 = .ok (.idiv, 1) := by decide +kernel
theorem d_S_lot_102 : decode prog_1_method_31_code 102 = .ok (.invokevirtual 255, 3) := by decide +kernel
theorem d_S_lot_105 : decode prog_1_method_31_code 105 = .ok (.sipush 1000, 3) := by decide +kernel
theorem d_S_lot_108 : decode prog_1_method_31_code 108 = .ok (.iload_n 2, 1) := by decide +kernel
theorem d_S_lot_109 : decode prog_1_method_31_code 109 = .ok (.imul, 1) := by decide +kernel
theorem d_S_lot_110 : decode prog_1_method_31_code 110 = .ok (.aload_n 0, 1) := by decide +kernel
theorem d_S_lot_111 : decode prog_1_method_31_code 111 = .ok (.getfield 62, 3) := by decide +kernel
theorem d_S_lot_114 : decode prog_1_method_31_code 114 = .ok (.getfield 284, 3) := by decide +kernel
theorem d_S_lot_117 : decode prog_1_method_31_code 117 = .ok (.idiv, 1) := by decide +kernel
theorem d_S_lot_118 : decode prog_1_method_31_code 118 = .ok (.ireturn, 1) := by decide +kernel
theorem d_S_mean_0 : decode prog_1_method_32_code 0 = .ok (.aload_n 0, 1) := by decide +kernel
theorem d_S_mean_1 : decode prog_1_method_32_code 1 = .ok (.getfield 62, 3) := by decide +kernel
theorem d_S_mean_4 : decode prog_1_method_32_code 4 = .ok (.invokevirtual 281, 3) := by decide +kernel
theorem d_S_mean_7 : decode prog_1_method_32_code 7 = .ok (.aload_n 0, 1) := by decide +kernel
theorem d_S_mean_8 : decode prog_1_method_32_code 8 = .ok (.getfield 62, 3) := by decide +kernel
theorem d_S_mean_11 : decode prog_1_method_32_code 11 = .ok (.getfield 284, 3) := by decide +kernel
theorem d_S_mean_14 : decode prog_1_method_32_code 14 = .ok (.ifCond .ne 6, 3) := by decide +kernel
theorem d_S_mean_17 : decode prog_1_method_32_code 17 = .ok (.bipush (-2), 2) := by decide +kernel
theorem d_S_mean_19 : decode prog_1_method_32_code 19 = .ok (.ireturn, 1) := by decide +kernel
theorem d_S_mean_20 : decode prog_1_method_32_code 20 = .ok (.iconst 0, 1) := by decide +kernel
theorem d_S_mean_21 : decode prog_1_method_32_code 21 = .ok (.istore_n 1, 1) := by decide +kernel
theorem d_S_mean_22 : decode prog_1_method_32_code 22 = .ok (.iconst 0, 1) := by decide +kernel
theorem d_S_mean_23 : decode prog_1_method_32_code 23 = .ok (.istore_n 2, 1) := by decide +kernel
theorem d_S_mean_24 : decode prog_1_method_32_code 24 = .ok (.iload_n 2, 1) := by decide +kernel
theorem d_S_mean_25 : decode prog_1_method_32_code 25 = .ok (.aload_n 0, 1) := by decide +kernel
theorem d_S_mean_26 : decode prog_1_method_32_code 26 = .ok (.getfield 19, 3) := by decide +kernel
theorem d_S_mean_29 : decode prog_1_method_32_code 29 = .ok (.getfield 100, 3) := by decide +kernel
theorem d_S_mean_32 : decode prog_1_method_32_code 32 = .ok (.if_icmp .ge 31, 3) := by decide +kernel
theorem d_S_mean_35 : decode prog_1_method_32_code 35 = .ok (.aload_n 0, 1) := by decide +kernel
theorem d_S_mean_36 : decode prog_1_method_32_code 36 = .ok (.getfield 19, 3) := by decide +kernel
theorem d_S_mean_39 : decode prog_1_method_32_code 39 = .ok (.iload_n 2, 1) := by decide +kernel
theorem d_S_mean_40 : decode prog_1_method_32_code 40 = .ok (.invokevirtual 146, 3) := by decide +kernel
theorem d_S_mean_43 : decode prog_1_method_32_code 43 = .ok (.ifCond .eq 14, 3) := by decide +kernel
theorem d_S_mean_46 : decode prog_1_method_32_code 46 = .ok (.iload_n 1, 1) := by decide +kernel
theorem d_S_mean_47 : decode prog_1_method_32_code 47 = .ok (.aload_n 0, 1) := by decide +kernel
theorem d_S_mean_48 : decode prog_1_method_32_code 48 = .ok (.getfield 62, 3) := by decide +kernel
theorem d_S_mean_51 : decode prog_1_method_32_code 51 = .ok (.iload_n 2, 1) := by decide +kernel
theorem d_S_mean_52 : decode prog_1_method_32_code 52 = .ok (.invokevirtual 336, 3) := by decide +kernel
theorem d_S_mean_55 : decode prog_1_method_32_code 55 = .ok (.ior, 1) := by decide +kernel
theorem d_S_mean_56 : decode prog_1_method_32_code 56 = .ok (.istore_n 1, 1) := by decide +kernel
theorem d_S_mean_57 : decode prog_1_method_32_code 57 = .ok (.iinc 2 1, 3) := by decide +kernel
theorem d_S_mean_60 : decode prog_1_method_32_code 60 = .ok (.goto (-36), 3) := by decide +kernel
theorem d_S_mean_63 : decode prog_1_method_32_code 63 = .ok (.iload_n 1, 1) := by decide +kernel
theorem d_S_mean_64 : decode prog_1_method_32_code 64 = .ok (.ireturn, 1) := by decide +kernel
theorem d_S_gone_0 : decode prog_1_method_34_code 0 = .ok (.iload_n 1, 1) := by decide +kernel
theorem d_S_gone_1 : decode prog_1_method_34_code 1 = .ok (.ifCond .ne 14, 3) := by decide +kernel
theorem d_S_gone_4 : decode prog_1_method_34_code 4 = .ok (.aload_n 0, 1) := by decide +kernel
theorem d_S_gone_5 : decode prog_1_method_34_code 5 = .ok (.getfield 19, 3) := by decide +kernel
theorem d_S_gone_8 : decode prog_1_method_34_code 8 = .ok (.iload_n 2, 1) := by decide +kernel
theorem d_S_gone_9 : decode prog_1_method_34_code 9 = .ok (.invokevirtual 111, 3) := by decide +kernel
theorem d_S_gone_12 : decode prog_1_method_34_code 12 = .ok (.ifCond .ne 19, 3) := by decide +kernel
theorem d_S_gone_15 : decode prog_1_method_34_code 15 = .ok (.iload_n 1, 1) := by decide +kernel
theorem d_S_gone_16 : decode prog_1_method_34_code 16 = .ok (.iconst 1, 1) := by decide +kernel
theorem d_S_gone_17 : decode prog_1_method_34_code 17 = .ok (.if_icmp .ne 18, 3) := by decide +kernel
theorem d_S_gone_20 : decode prog_1_method_34_code 20 = .ok (.aload_n 0, 1) := by decide +kernel
theorem d_S_gone_21 : decode prog_1_method_34_code 21 = .ok (.getfield 10, 3) := by decide +kernel
theorem d_S_gone_24 : decode prog_1_method_34_code 24 = .ok (.iload_n 2, 1) := by decide +kernel
theorem d_S_gone_25 : decode prog_1_method_34_code 25 = .ok (.invokevirtual 128, 3) := by decide +kernel
theorem d_S_gone_28 : decode prog_1_method_34_code 28 = .ok (.ifCond .eq 7, 3) := by decide +kernel
theorem d_S_gone_31 : decode prog_1_method_34_code 31 = .ok (.iconst 1, 1) := by decide +kernel
theorem d_S_gone_32 : decode prog_1_method_34_code 32 = .ok (.goto 4, 3) := by decide +kernel
theorem d_S_gone_35 : decode prog_1_method_34_code 35 = .ok (.iconst 0, 1) := by decide +kernel
theorem d_S_gone_36 : decode prog_1_method_34_code 36 = .ok (.istore_n 3, 1) := by decide +kernel
theorem d_S_gone_37 : decode prog_1_method_34_code 37 = .ok (.iload_n 3, 1) := by decide +kernel
theorem d_S_gone_38 : decode prog_1_method_34_code 38 = .ok (.ifCond .ne 5, 3) := by decide +kernel
theorem d_S_gone_41 : decode prog_1_method_34_code 41 = .ok (.iconst (-1), 1) := by decide +kernel
theorem d_S_gone_42 : decode prog_1_method_34_code 42 = .ok (.ireturn, 1) := by decide +kernel
theorem d_S_gone_43 : decode prog_1_method_34_code 43 = .ok (.aload_n 0, 1) := by decide +kernel
theorem d_S_gone_44 : decode prog_1_method_34_code 44 = .ok (.getfield 71, 3) := by decide +kernel
theorem d_S_gone_47 : decode prog_1_method_34_code 47 = .ok (.invokevirtual 262, 3) := by decide +kernel
theorem d_S_gone_50 : decode prog_1_method_34_code 50 = .ok (.aload_n 0, 1) := by decide +kernel
theorem d_S_gone_51 : decode prog_1_method_34_code 51 = .ok (.getfield 71, 3) := by decide +kernel
theorem d_S_gone_54 : decode prog_1_method_34_code 54 = .ok (.invokevirtual 265, 3) := by decide +kernel
theorem d_S_gone_57 : decode prog_1_method_34_code 57 = .ok (.ifCond .ne 6, 3) := by decide +kernel
theorem d_S_gone_60 : decode prog_1_method_34_code 60 = .ok (.bipush (-3), 2) := by decide +kernel
theorem d_S_gone_62 : decode prog_1_method_34_code 62 = .ok (.ireturn, 1) := by decide +kernel
theorem d_S_gone_63 : decode prog_1_method_34_code 63 = .ok (.aload_n 0, 1) := by decide +kernel
theorem d_S_gone_64 : decode prog_1_method_34_code 64 = .ok (.getfield 71, 3) := by decide +kernel
theorem d_S_gone_67 : decode prog_1_method_34_code 67 = .ok (.getfield 275, 3) := by decide +kernel
theorem d_S_gone_70 : decode prog_1_method_34_code 70 = .ok (.istore 4, 2) := by decide +kernel
theorem d_S_gone_72 : decode prog_1_method_34_code 72 = .ok (.iload_n 1, 1) := by decide +kernel
theorem d_S_gone_73 : decode prog_1_method_34_code 73 = .ok (.ifCond .ne 14, 3) := by decide +kernel
theorem d_S_gone_76 : decode prog_1_method_34_code 76 = .ok (.aload_n 0, 1) := by decide +kernel
theorem d_S_gone_77 : decode prog_1_method_34_code 77 = .ok (.getfield 71, 3) := by decide +kernel
theorem d_S_gone_80 : decode prog_1_method_34_code 80 = .ok (.iload_n 2, 1) := by decide +kernel
theorem d_S_gone_81 : decode prog_1_method_34_code 81 = .ok (.invokevirtual 339, 3) := by decide +kernel
theorem d_S_gone_84 : decode prog_1_method_34_code 84 = .ok (.goto 11, 3) := by decide +kernel
theorem d_S_gone_87 : decode prog_1_method_34_code 87 = .ok (.aload_n 0, 1) := by decide +kernel
theorem d_S_gone_88 : decode prog_1_method_34_code 88 = .ok (.getfield 71, 3) := by decide +kernel
theorem d_S_gone_91 : decode prog_1_method_34_code 91 = .ok (.iload_n 2, 1) := by decide +kernel
theorem d_S_gone_92 : decode prog_1_method_34_code 92 = .ok (.invokevirtual 342, 3) := by decide +kernel
theorem d_S_gone_95 : decode prog_1_method_34_code 95 = .ok (.aload_n 0, 1) := by decide +kernel
theorem d_S_gone_96 : decode prog_1_method_34_code 96 = .ok (.getfield 71, 3) := by decide +kernel
theorem d_S_gone_99 : decode prog_1_method_34_code 99 = .ok (.invokevirtual 265, 3) := by decide +kernel
theorem d_S_gone_102 : decode prog_1_method_34_code 102 = .ok (.ifCond .ne 6, 3) := by decide +kernel
theorem d_S_gone_105 : decode prog_1_method_34_code 105 = .ok (.bipush (-3), 2) := by decide +kernel
theorem d_S_gone_107 : decode prog_1_method_34_code 107 = .ok (.ireturn, 1) := by decide +kernel
theorem d_S_gone_108 : decode prog_1_method_34_code 108 = .ok (.iconst 0, 1) := by decide +kernel
theorem d_S_gone_109 : decode prog_1_method_34_code 109 = .ok (.istore 5, 2) := by decide +kernel
theorem d_S_gone_111 : decode prog_1_method_34_code 111 = .ok (.iconst 0, 1) := by decide +kernel
theorem d_S_gone_112 : decode prog_1_method_34_code 112 = .ok (.istore 6, 2) := by decide +kernel
theorem d_S_gone_114 : decode prog_1_method_34_code 114 = .ok (.iload 6, 2) := by decide +kernel
theorem d_S_gone_116 : decode prog_1_method_34_code 116 = .ok (.aload_n 0, 1) := by decide +kernel
theorem d_S_gone_117 : decode prog_1_method_34_code 117 = .ok (.getfield 19, 3) := by decide +kernel
theorem d_S_gone_120 : decode prog_1_method_34_code 120 = .ok (.getfield 100, 3) := by decide +kernel
theorem d_S_gone_123 : decode prog_1_method_34_code 123 = .ok (.if_icmp .ge 42, 3) := by decide +kernel
theorem d_S_gone_126 : decode prog_1_method_34_code 126 = .ok (.iload 4, 2) := by decide +kernel
theorem d_S_gone_128 : decode prog_1_method_34_code 128 = .ok (.aload_n 0, 1) := by decide +kernel
theorem d_S_gone_129 : decode prog_1_method_34_code 129 = .ok (.getfield 71, 3) := by decide +kernel
theorem d_S_gone_132 : decode prog_1_method_34_code 132 = .ok (.getfield 275, 3) := by decide +kernel
theorem d_S_gone_135 : decode prog_1_method_34_code 135 = .ok (.ixor, 1) := by decide +kernel
theorem d_S_gone_136 : decode prog_1_method_34_code 136 = .ok (.aload_n 0, 1) := by decide +kernel
theorem d_S_gone_137 : decode prog_1_method_34_code 137 = .ok (.getfield 10, 3) := by decide +kernel
theorem d_S_gone_140 : decode prog_1_method_34_code 140 = .ok (.getfield 345, 3) := by decide +kernel
theorem d_S_gone_143 : decode prog_1_method_34_code 143 = .ok (.iload 6, 2) := by decide +kernel
theorem d_S_gone_145 : decode prog_1_method_34_code 145 = .ok (.iaload, 1) := by decide +kernel
theorem d_S_gone_146 : decode prog_1_method_34_code 146 = .ok (.iand, 1) := by decide +kernel
theorem d_S_gone_147 : decode prog_1_method_34_code 147 = .ok (.ifCond .eq 12, 3) := by decide +kernel
theorem d_S_gone_150 : decode prog_1_method_34_code 150 = .ok (.iload 5, 2) := by decide +kernel
theorem d_S_gone_152 : decode prog_1_method_34_code 152 = .ok (.iconst 1, 1) := by decide +kernel
theorem d_S_gone_153 : decode prog_1_method_34_code 153 = .ok (.iload 6, 2) := by decide +kernel
theorem d_S_gone_155 : decode prog_1_method_34_code 155 = .ok (.ishl, 1) := by decide +kernel
theorem d_S_gone_156 : decode prog_1_method_34_code 156 = .ok (.ior, 1) := by decide +kernel
theorem d_S_gone_157 : decode prog_1_method_34_code 157 = .ok (.istore 5, 2) := by decide +kernel
theorem d_S_gone_159 : decode prog_1_method_34_code 159 = .ok (.iinc 6 1, 3) := by decide +kernel
theorem d_S_gone_162 : decode prog_1_method_34_code 162 = .ok (.goto (-48), 3) := by decide +kernel
theorem d_S_gone_165 : decode prog_1_method_34_code 165 = .ok (.aload_n 0, 1) := by decide +kernel
theorem d_S_gone_166 : decode prog_1_method_34_code 166 = .ok (.aload_n 0, 1) := by decide +kernel
theorem d_S_gone_167 : decode prog_1_method_34_code 167 = .ok (.getfield 10, 3) := by decide +kernel
theorem d_S_gone_170 : decode prog_1_method_34_code 170 = .ok (.aload_n 0, 1) := by decide +kernel
theorem d_S_gone_171 : decode prog_1_method_34_code 171 = .ok (.getfield 71, 3) := by decide +kernel
theorem d_S_gone_174 : decode prog_1_method_34_code 174 = .ok (.getfield 275, 3) := by decide +kernel
theorem d_S_gone_177 : decode prog_1_method_34_code 177 = .ok (.invokevirtual 278, 3) := by decide +kernel
theorem d_S_gone_180 : decode prog_1_method_34_code 180 = .ok (.iload 5, 2) := by decide +kernel
theorem d_S_gone_182 : decode prog_1_method_34_code 182 = .ok (.invokevirtual 255, 3) := by decide +kernel
theorem d_S_gone_185 : decode prog_1_method_34_code 185 = .ok (.iload 5, 2) := by decide +kernel
theorem d_S_gone_187 : decode prog_1_method_34_code 187 = .ok (.invokestatic 218, 3) := by decide +kernel
theorem d_S_gone_190 : decode prog_1_method_34_code 190 = .ok (.ireturn, 1) := by decide +kernel
theorem d_S_count_0 : decode prog_1_method_35_code 0 = .ok (.iload_n 1, 1) := by decide +kernel
theorem d_S_count_1 : decode prog_1_method_35_code 1 = .ok (.tableswitch 84 0 5 #[39, 47, 52, 60, 68, 76], 39) := by decide +kernel
theorem d_S_count_40 : decode prog_1_method_35_code 40 = .ok (.aload_n 0, 1) := by decide +kernel
theorem d_S_count_41 : decode prog_1_method_35_code 41 = .ok (.getfield 19, 3) := by decide +kernel
theorem d_S_count_44 : decode prog_1_method_35_code 44 = .ok (.getfield 100, 3) := by decide +kernel
theorem d_S_count_47 : decode prog_1_method_35_code 47 = .ok (.ireturn, 1) := by decide +kernel
theorem d_S_count_48 : decode prog_1_method_35_code 48 = .ok (.aload_n 0, 1) := by decide +kernel
theorem d_S_count_49 : decode prog_1_method_35_code 49 = .ok (.getfield 96, 3) := by decide +kernel
theorem d_S_count_52 : decode prog_1_method_35_code 52 = .ok (.ireturn, 1) := by decide +kernel
theorem d_S_count_53 : decode prog_1_method_35_code 53 = .ok (.aload_n 0, 1) := by decide +kernel
theorem d_S_count_54 : decode prog_1_method_35_code 54 = .ok (.getfield 10, 3) := by decide +kernel
theorem d_S_count_57 : decode prog_1_method_35_code 57 = .ok (.getfield 348, 3) := by decide +kernel
theorem d_S_count_60 : decode prog_1_method_35_code 60 = .ok (.ireturn, 1) := by decide +kernel
theorem d_S_count_61 : decode prog_1_method_35_code 61 = .ok (.aload_n 0, 1) := by decide +kernel
theorem d_S_count_62 : decode prog_1_method_35_code 62 = .ok (.getfield 26, 3) := by decide +kernel
theorem d_S_count_65 : decode prog_1_method_35_code 65 = .ok (.getfield 149, 3) := by decide +kernel
theorem d_S_count_68 : decode prog_1_method_35_code 68 = .ok (.ireturn, 1) := by decide +kernel
theorem d_S_count_69 : decode prog_1_method_35_code 69 = .ok (.aload_n 0, 1) := by decide +kernel
theorem d_S_count_70 : decode prog_1_method_35_code 70 = .ok (.getfield 78, 3) := by decide +kernel
theorem d_S_count_73 : decode prog_1_method_35_code 73 = .ok (.getfield 179, 3) := by decide +kernel
theorem d_S_count_76 : decode prog_1_method_35_code 76 = .ok (.ireturn, 1) := by decide +kernel
theorem d_S_count_77 : decode prog_1_method_35_code 77 = .ok (.aload_n 0, 1) := by decide +kernel
theorem d_S_count_78 : decode prog_1_method_35_code 78 = .ok (.getfield 85, 3) := by decide +kernel
theorem d_S_count_81 : decode prog_1_method_35_code 81 = .ok (.getfield 349, 3) := by decide +kernel
theorem d_S_count_84 : decode prog_1_method_35_code 84 = .ok (.ireturn, 1) := by decide +kernel
theorem d_S_count_85 : decode prog_1_method_35_code 85 = .ok (.iconst (-1), 1) := by decide +kernel
theorem d_S_count_86 : decode prog_1_method_35_code 86 = .ok (.ireturn, 1) := by decide +kernel
theorem d_S_of_0 : decode prog_1_method_36_code 0 = .ok (.aload_n 0, 1) := by decide +kernel
theorem d_S_of_1 : decode prog_1_method_36_code 1 = .ok (.getfield 10, 3) := by decide +kernel
theorem d_S_of_4 : decode prog_1_method_36_code 4 = .ok (.iload_n 1, 1) := by decide +kernel
theorem d_S_of_5 : decode prog_1_method_36_code 5 = .ok (.invokevirtual 128, 3) := by decide +kernel
theorem d_S_of_8 : decode prog_1_method_36_code 8 = .ok (.ifCond .ne 5, 3) := by decide +kernel
theorem d_S_of_11 : decode prog_1_method_36_code 11 = .ok (.iconst (-1), 1) := by decide +kernel
theorem d_S_of_12 : decode prog_1_method_36_code 12 = .ok (.ireturn, 1) := by decide +kernel
theorem d_S_of_13 : decode prog_1_method_36_code 13 = .ok (.iload_n 2, 1) := by decide +kernel
theorem d_S_of_14 : decode prog_1_method_36_code 14 = .ok (.tableswitch 98 0 5 #[38, 48, 58, 68, 78, 88], 38) := by decide +kernel
theorem d_S_of_52 : decode prog_1_method_36_code 52 = .ok (.aload_n 0, 1) := by decide +kernel
theorem d_S_of_53 : decode prog_1_method_36_code 53 = .ok (.getfield 10, 3) := by decide +kernel
theorem d_S_of_56 : decode prog_1_method_36_code 56 = .ok (.getfield 133, 3) := by decide +kernel
theorem d_S_of_59 : decode prog_1_method_36_code 59 = .ok (.iload_n 1, 1) := by decide +kernel
theorem d_S_of_60 : decode prog_1_method_36_code 60 = .ok (.iaload, 1) := by decide +kernel
theorem d_S_of_61 : decode prog_1_method_36_code 61 = .ok (.ireturn, 1) := by decide +kernel
theorem d_S_of_62 : decode prog_1_method_36_code 62 = .ok (.aload_n 0, 1) := by decide +kernel
theorem d_S_of_63 : decode prog_1_method_36_code 63 = .ok (.getfield 10, 3) := by decide +kernel
theorem d_S_of_66 : decode prog_1_method_36_code 66 = .ok (.getfield 199, 3) := by decide +kernel
theorem d_S_of_69 : decode prog_1_method_36_code 69 = .ok (.iload_n 1, 1) := by decide +kernel
theorem d_S_of_70 : decode prog_1_method_36_code 70 = .ok (.iaload, 1) := by decide +kernel
theorem d_S_of_71 : decode prog_1_method_36_code 71 = .ok (.ireturn, 1) := by decide +kernel
theorem d_S_of_72 : decode prog_1_method_36_code 72 = .ok (.aload_n 0, 1) := by decide +kernel
theorem d_S_of_73 : decode prog_1_method_36_code 73 = .ok (.getfield 10, 3) := by decide +kernel
theorem d_S_of_76 : decode prog_1_method_36_code 76 = .ok (.getfield 350, 3) := by decide +kernel
theorem d_S_of_79 : decode prog_1_method_36_code 79 = .ok (.iload_n 1, 1) := by decide +kernel
theorem d_S_of_80 : decode prog_1_method_36_code 80 = .ok (.iaload, 1) := by decide +kernel
theorem d_S_of_81 : decode prog_1_method_36_code 81 = .ok (.ireturn, 1) := by decide +kernel
theorem d_S_of_82 : decode prog_1_method_36_code 82 = .ok (.aload_n 0, 1) := by decide +kernel
theorem d_S_of_83 : decode prog_1_method_36_code 83 = .ok (.getfield 10, 3) := by decide +kernel
theorem d_S_of_86 : decode prog_1_method_36_code 86 = .ok (.getfield 353, 3) := by decide +kernel
theorem d_S_of_89 : decode prog_1_method_36_code 89 = .ok (.iload_n 1, 1) := by decide +kernel
theorem d_S_of_90 : decode prog_1_method_36_code 90 = .ok (.iaload, 1) := by decide +kernel
theorem d_S_of_91 : decode prog_1_method_36_code 91 = .ok (.ireturn, 1) := by decide +kernel
theorem d_S_of_92 : decode prog_1_method_36_code 92 = .ok (.aload_n 0, 1) := by decide +kernel
theorem d_S_of_93 : decode prog_1_method_36_code 93 = .ok (.getfield 10, 3) := by decide +kernel
theorem d_S_of_96 : decode prog_1_method_36_code 96 = .ok (.getfield 356, 3) := by decide +kernel
theorem d_S_of_99 : decode prog_1_method_36_code 99 = .ok (.iload_n 1, 1) := by decide +kernel
theorem d_S_of_100 : decode prog_1_method_36_code 100 = .ok (.iaload, 1) := by decide +kernel
theorem d_S_of_101 : decode prog_1_method_36_code 101 = .ok (.ireturn, 1) := by decide +kernel
theorem d_S_of_102 : decode prog_1_method_36_code 102 = .ok (.aload_n 0, 1) := by decide +kernel
theorem d_S_of_103 : decode prog_1_method_36_code 103 = .ok (.getfield 19, 3) := by decide +kernel
theorem d_S_of_106 : decode prog_1_method_36_code 106 = .ok (.getfield 129, 3) := by decide +kernel
theorem d_S_of_109 : decode prog_1_method_36_code 109 = .ok (.iload_n 1, 1) := by decide +kernel
theorem d_S_of_110 : decode prog_1_method_36_code 110 = .ok (.iaload, 1) := by decide +kernel
theorem d_S_of_111 : decode prog_1_method_36_code 111 = .ok (.ireturn, 1) := by decide +kernel
theorem d_S_of_112 : decode prog_1_method_36_code 112 = .ok (.iconst (-1), 1) := by decide +kernel
theorem d_S_of_113 : decode prog_1_method_36_code 113 = .ok (.ireturn, 1) := by decide +kernel
