theorem d_M_lie_81 : decode prog_14_method_72_code 81 = .ok (.iaload, 1) := by decide +kernel
theorem d_M_lie_82 : decode prog_14_method_72_code 82 = .ok (.iload_n 1, 1) := by decide +kernel
theorem d_M_lie_83 : decode prog_14_method_72_code 83 = .ok (.if_icmp .ne 7, 3) := by decide +kernel
theorem d_M_lie_86 : decode prog_14_method_72_code 86 = .ok (.iconst 1, 1) := by decide +kernel
theorem d_M_lie_87 : decode prog_14_method_72_code 87 = .ok (.goto 4, 3) := by decide +kernel
theorem d_M_lie_90 : decode prog_14_method_72_code 90 = .ok (.iconst 0, 1) := by decide +kernel
theorem d_M_lie_91 : decode prog_14_method_72_code 91 = .ok (.istore 5, 2) := by decide +kernel
theorem d_M_lie_93 : decode prog_14_method_72_code 93 = .ok (.iconst 0, 1) := by decide +kernel
theorem d_M_lie_94 : decode prog_14_method_72_code 94 = .ok (.istore 6, 2) := by decide +kernel
theorem d_M_lie_96 : decode prog_14_method_72_code 96 = .ok (.iload 6, 2) := by decide +kernel
theorem d_M_lie_98 : decode prog_14_method_72_code 98 = .ok (.iload_n 2, 1) := by decide +kernel
theorem d_M_lie_99 : decode prog_14_method_72_code 99 = .ok (.if_icmp .ge 33, 3) := by decide +kernel
theorem d_M_lie_102 : decode prog_14_method_72_code 102 = .ok (.iload 5, 2) := by decide +kernel
theorem d_M_lie_104 : decode prog_14_method_72_code 104 = .ok (.ifCond .eq 19, 3) := by decide +kernel
theorem d_M_lie_107 : decode prog_14_method_72_code 107 = .ok (.aload_n 0, 1) := by decide +kernel
theorem d_M_lie_108 : decode prog_14_method_72_code 108 = .ok (.getfield 127, 3) := by decide +kernel
theorem d_M_lie_111 : decode prog_14_method_72_code 111 = .ok (.iload 6, 2) := by decide +kernel
theorem d_M_lie_113 : decode prog_14_method_72_code 113 = .ok (.iaload, 1) := by decide +kernel
theorem d_M_lie_114 : decode prog_14_method_72_code 114 = .ok (.iload 4, 2) := by decide +kernel
theorem d_M_lie_116 : decode prog_14_method_72_code 116 = .ok (.if_icmp .eq 7, 3) := by decide +kernel
theorem d_M_lie_119 : decode prog_14_method_72_code 119 = .ok (.iconst 1, 1) := by decide +kernel
theorem d_M_lie_120 : decode prog_14_method_72_code 120 = .ok (.goto 4, 3) := by decide +kernel
theorem d_M_lie_123 : decode prog_14_method_72_code 123 = .ok (.iconst 0, 1) := by decide +kernel
theorem d_M_lie_124 : decode prog_14_method_72_code 124 = .ok (.istore 5, 2) := by decide +kernel
theorem d_M_lie_126 : decode prog_14_method_72_code 126 = .ok (.iinc 6 1, 3) := by decide +kernel
theorem d_M_lie_129 : decode prog_14_method_72_code 129 = .ok (.goto (-33), 3) := by decide +kernel
theorem d_M_lie_132 : decode prog_14_method_72_code 132 = .ok (.iload 5, 2) := by decide +kernel
theorem d_M_lie_134 : decode prog_14_method_72_code 134 = .ok (.ifCond .ne 6, 3) := by decide +kernel
theorem d_M_lie_137 : decode prog_14_method_72_code 137 = .ok (.goto 25, 3) := by decide +kernel
theorem d_M_lie_140 : decode prog_14_method_72_code 140 = .ok (.aload_n 0, 1) := by decide +kernel
theorem d_M_lie_141 : decode prog_14_method_72_code 141 = .ok (.getfield 127, 3) := by decide +kernel
theorem d_M_lie_144 : decode prog_14_method_72_code 144 = .ok (.iload_n 2, 1) := by decide +kernel
theorem d_M_lie_145 : decode prog_14_method_72_code 145 = .ok (.iload 4, 2) := by decide +kernel
theorem d_M_lie_147 : decode prog_14_method_72_code 147 = .ok (.iastore, 1) := by decide +kernel
theorem d_M_lie_148 : decode prog_14_method_72_code 148 = .ok (.aload_n 0, 1) := by decide +kernel
theorem d_M_lie_149 : decode prog_14_method_72_code 149 = .ok (.iload_n 1, 1) := by decide +kernel
theorem d_M_lie_150 : decode prog_14_method_72_code 150 = .ok (.iload_n 2, 1) := by decide +kernel
theorem d_M_lie_151 : decode prog_14_method_72_code 151 = .ok (.iconst 1, 1) := by decide +kernel
theorem d_M_lie_152 : decode prog_14_method_72_code 152 = .ok (.iadd, 1) := by decide +kernel
theorem d_M_lie_153 : decode prog_14_method_72_code 153 = .ok (.iload_n 3, 1) := by decide +kernel
theorem d_M_lie_154 : decode prog_14_method_72_code 154 = .ok (.invokevirtual 399, 3) := by decide +kernel
theorem d_M_lie_157 : decode prog_14_method_72_code 157 = .ok (.ifCond .eq 5, 3) := by decide +kernel
theorem d_M_lie_160 : decode prog_14_method_72_code 160 = .ok (.iconst 1, 1) := by decide +kernel
theorem d_M_lie_161 : decode prog_14_method_72_code 161 = .ok (.ireturn, 1) := by decide +kernel
theorem d_M_lie_162 : decode prog_14_method_72_code 162 = .ok (.iinc 4 1, 3) := by decide +kernel
theorem d_M_lie_165 : decode prog_14_method_72_code 165 = .ok (.goto (-99), 3) := by decide +kernel
theorem d_M_lie_168 : decode prog_14_method_72_code 168 = .ok (.iconst 0, 1) := by decide +kernel
theorem d_M_lie_169 : decode prog_14_method_72_code 169 = .ok (.ireturn, 1) := by decide +kernel
theorem d_M_gain_0 : decode prog_14_method_73_code 0 = .ok (.aload_n 0, 1) := by decide +kernel
theorem d_M_gain_1 : decode prog_14_method_73_code 1 = .ok (.iconst 0, 1) := by decide +kernel
theorem d_M_gain_2 : decode prog_14_method_73_code 2 = .ok (.putfield 148, 3) := by decide +kernel
theorem d_M_gain_5 : decode prog_14_method_73_code 5 = .ok (.aload_n 0, 1) := by decide +kernel
theorem d_M_gain_6 : decode prog_14_method_73_code 6 = .ok (.iload_n 1, 1) := by decide +kernel
theorem d_M_gain_7 : decode prog_14_method_73_code 7 = .ok (.invokevirtual 177, 3) := by decide +kernel
theorem d_M_gain_10 : decode prog_14_method_73_code 10 = .ok (.ifCond .eq 12, 3) := by decide +kernel
theorem d_M_gain_13 : decode prog_14_method_73_code 13 = .ok (.aload_n 0, 1) := by decide +kernel
theorem d_M_gain_14 : decode prog_14_method_73_code 14 = .ok (.iload_n 1, 1) := by decide +kernel
theorem d_M_gain_15 : decode prog_14_method_73_code 15 = .ok (.invokevirtual 193, 3) := by decide +kernel
theorem d_M_gain_18 : decode prog_14_method_73_code 18 = .ok (.iconst (-1), 1) := by decide +kernel
theorem d_M_gain_19 : decode prog_14_method_73_code 19 = .ok (.if_icmp .eq 5, 3) := by decide +kernel
theorem d_M_gain_22 : decode prog_14_method_73_code 22 = .ok (.iconst (-1), 1) := by decide +kernel
theorem d_M_gain_23 : decode prog_14_method_73_code 23 = .ok (.ireturn, 1) := by decide +kernel
theorem d_M_gain_24 : decode prog_14_method_73_code 24 = .ok (.aload_n 0, 1) := by decide +kernel
theorem d_M_gain_25 : decode prog_14_method_73_code 25 = .ok (.invokevirtual 358, 3) := by decide +kernel
theorem d_M_gain_28 : decode prog_14_method_73_code 28 = .ok (.istore_n 2, 1) := by decide +kernel
theorem d_M_gain_29 : decode prog_14_method_73_code 29 = .ok (.iload_n 2, 1) := by decide +kernel
theorem d_M_gain_30 : decode prog_14_method_73_code 30 = .ok (.ifCond .ge 5, 3) := by decide +kernel
theorem d_M_gain_33 : decode prog_14_method_73_code 33 = .ok (.iconst 0, 1) := by decide +kernel
theorem d_M_gain_34 : decode prog_14_method_73_code 34 = .ok (.ireturn, 1) := by decide +kernel
theorem d_M_gain_35 : decode prog_14_method_73_code 35 = .ok (.aload_n 0, 1) := by decide +kernel
theorem d_M_gain_36 : decode prog_14_method_73_code 36 = .ok (.aload_n 0, 1) := by decide +kernel
theorem d_M_gain_37 : decode prog_14_method_73_code 37 = .ok (.iload_n 2, 1) := by decide +kernel
theorem d_M_gain_38 : decode prog_14_method_73_code 38 = .ok (.iload_n 1, 1) := by decide +kernel
theorem d_M_gain_39 : decode prog_14_method_73_code 39 = .ok (.invokevirtual 318, 3) := by decide +kernel
theorem d_M_gain_42 : decode prog_14_method_73_code 42 = .ok (.putfield 396, 3) := by decide +kernel
theorem d_M_gain_45 : decode prog_14_method_73_code 45 = .ok (.aload_n 0, 1) := by decide +kernel
theorem d_M_gain_46 : decode prog_14_method_73_code 46 = .ok (.iload_n 1, 1) := by decide +kernel
theorem d_M_gain_47 : decode prog_14_method_73_code 47 = .ok (.putfield 123, 3) := by decide +kernel
theorem d_M_gain_50 : decode prog_14_method_73_code 50 = .ok (.iconst 1, 1) := by decide +kernel
theorem d_M_gain_51 : decode prog_14_method_73_code 51 = .ok (.istore_n 3, 1) := by decide +kernel
theorem d_M_gain_52 : decode prog_14_method_73_code 52 = .ok (.iload_n 3, 1) := by decide +kernel
theorem d_M_gain_53 : decode prog_14_method_73_code 53 = .ok (.iconst 5, 1) := by decide +kernel
theorem d_M_gain_54 : decode prog_14_method_73_code 54 = .ok (.if_icmp .gt 19, 3) := by decide +kernel
theorem d_M_gain_57 : decode prog_14_method_73_code 57 = .ok (.aload_n 0, 1) := by decide +kernel
theorem d_M_gain_58 : decode prog_14_method_73_code 58 = .ok (.iload_n 1, 1) := by decide +kernel
theorem d_M_gain_59 : decode prog_14_method_73_code 59 = .ok (.iconst 0, 1) := by decide +kernel
theorem d_M_gain_60 : decode prog_14_method_73_code 60 = .ok (.iload_n 3, 1) := by decide +kernel
theorem d_M_gain_61 : decode prog_14_method_73_code 61 = .ok (.invokevirtual 399, 3) := by decide +kernel
theorem d_M_gain_64 : decode prog_14_method_73_code 64 = .ok (.ifCond .ne 9, 3) := by decide +kernel
theorem d_M_gain_67 : decode prog_14_method_73_code 67 = .ok (.iinc 3 1, 3) := by decide +kernel
theorem d_M_gain_70 : decode prog_14_method_73_code 70 = .ok (.goto (-18), 3) := by decide +kernel
theorem d_M_gain_73 : decode prog_14_method_73_code 73 = .ok (.aload_n 0, 1) := by decide +kernel
theorem d_M_gain_74 : decode prog_14_method_73_code 74 = .ok (.iconst (-1), 1) := by decide +kernel
theorem d_M_gain_75 : decode prog_14_method_73_code 75 = .ok (.putfield 123, 3) := by decide +kernel
theorem d_M_gain_78 : decode prog_14_method_73_code 78 = .ok (.iload_n 3, 1) := by decide +kernel
theorem d_M_gain_79 : decode prog_14_method_73_code 79 = .ok (.iconst 5, 1) := by decide +kernel
theorem d_M_gain_80 : decode prog_14_method_73_code 80 = .ok (.if_icmp .le 5, 3) := by decide +kernel
theorem d_M_gain_83 : decode prog_14_method_73_code 83 = .ok (.iconst 0, 1) := by decide +kernel
theorem d_M_gain_84 : decode prog_14_method_73_code 84 = .ok (.ireturn, 1) := by decide +kernel
theorem d_M_gain_85 : decode prog_14_method_73_code 85 = .ok (.aload_n 0, 1) := by decide +kernel
theorem d_M_gain_86 : decode prog_14_method_73_code 86 = .ok (.iconst 0, 1) := by decide +kernel
theorem d_M_gain_87 : decode prog_14_method_73_code 87 = .ok (.putfield 170, 3) := by decide +kernel
theorem d_M_gain_90 : decode prog_14_method_73_code 90 = .ok (.iconst 0, 1) := by decide +kernel
theorem d_M_gain_91 : decode prog_14_method_73_code 91 = .ok (.istore 4, 2) := by decide +kernel
theorem d_M_gain_93 : decode prog_14_method_73_code 93 = .ok (.iload 4, 2) := by decide +kernel
theorem d_M_gain_95 : decode prog_14_method_73_code 95 = .ok (.iload_n 3, 1) := by decide +kernel
theorem d_M_gain_96 : decode prog_14_method_73_code 96 = .ok (.if_icmp .ge 20, 3) := by decide +kernel
theorem d_M_gain_99 : decode prog_14_method_73_code 99 = .ok (.aload_n 0, 1) := by decide +kernel
theorem d_M_gain_100 : decode prog_14_method_73_code 100 = .ok (.aload_n 0, 1) := by decide +kernel
theorem d_M_gain_101 : decode prog_14_method_73_code 101 = .ok (.getfield 127, 3) := by decide +kernel
theorem d_M_gain_104 : decode prog_14_method_73_code 104 = .ok (.iload 4, 2) := by decide +kernel
theorem d_M_gain_106 : decode prog_14_method_73_code 106 = .ok (.iaload, 1) := by decide +kernel
theorem d_M_gain_107 : decode prog_14_method_73_code 107 = .ok (.invokevirtual 309, 3) := by decide +kernel
theorem d_M_gain_110 : decode prog_14_method_73_code 110 = .ok (.iinc 4 1, 3) := by decide +kernel
theorem d_M_gain_113 : decode prog_14_method_73_code 113 = .ok (.goto (-20), 3) := by decide +kernel
theorem d_M_gain_116 : decode prog_14_method_73_code 116 = .ok (.iconst 1, 1) := by decide +kernel
theorem d_M_gain_117 : decode prog_14_method_73_code 117 = .ok (.ireturn, 1) := by decide +kernel
theorem d_M_left_0 : decode prog_14_method_74_code 0 = .ok (.aload_n 0, 1) := by decide +kernel
theorem d_M_left_1 : decode prog_14_method_74_code 1 = .ok (.iconst 0, 1) := by decide +kernel
theorem d_M_left_2 : decode prog_14_method_74_code 2 = .ok (.putfield 148, 3) := by decide +kernel
theorem d_M_left_5 : decode prog_14_method_74_code 5 = .ok (.aload_n 0, 1) := by decide +kernel
theorem d_M_left_6 : decode prog_14_method_74_code 6 = .ok (.invokevirtual 371, 3) := by decide +kernel
theorem d_M_left_9 : decode prog_14_method_74_code 9 = .ok (.aload_n 0, 1) := by decide +kernel
theorem d_M_left_10 : decode prog_14_method_74_code 10 = .ok (.getfield 364, 3) := by decide +kernel
theorem d_M_left_13 : decode prog_14_method_74_code 13 = .ok (.ifCond .ne 6, 3) := by decide +kernel
theorem d_M_left_16 : decode prog_14_method_74_code 16 = .ok (.bipush (-2), 2) := by decide +kernel
theorem d_M_left_18 : decode prog_14_method_74_code 18 = .ok (.ireturn, 1) := by decide +kernel
theorem d_M_left_19 : decode prog_14_method_74_code 19 = .ok (.iconst 0, 1) := by decide +kernel
theorem d_M_left_20 : decode prog_14_method_74_code 20 = .ok (.istore_n 1, 1) := by decide +kernel
theorem d_M_left_21 : decode prog_14_method_74_code 21 = .ok (.iconst 0, 1) := by decide +kernel
theorem d_M_left_22 : decode prog_14_method_74_code 22 = .ok (.istore_n 2, 1) := by decide +kernel
theorem d_M_left_23 : decode prog_14_method_74_code 23 = .ok (.iload_n 2, 1) := by decide +kernel
theorem d_M_left_24 : decode prog_14_method_74_code 24 = .ok (.aload_n 0, 1) := by decide +kernel
theorem d_M_left_25 : decode prog_14_method_74_code 25 = .ok (.getfield 364, 3) := by decide +kernel
theorem d_M_left_28 : decode prog_14_method_74_code 28 = .ok (.if_icmp .ge 22, 3) := by decide +kernel
theorem d_M_left_31 : decode prog_14_method_74_code 31 = .ok (.iload_n 1, 1) := by decide +kernel
theorem d_M_left_32 : decode prog_14_method_74_code 32 = .ok (.aload_n 0, 1) := by decide +kernel
theorem d_M_left_33 : decode prog_14_method_74_code 33 = .ok (.aload_n 0, 1) := by decide +kernel
theorem d_M_left_34 : decode prog_14_method_74_code 34 = .ok (.getfield 136, 3) := by decide +kernel
theorem d_M_left_37 : decode prog_14_method_74_code 37 = .ok (.iload_n 2, 1) := by decide +kernel
theorem d_M_left_38 : decode prog_14_method_74_code 38 = .ok (.iaload, 1) := by decide +kernel
theorem d_M_left_39 : decode prog_14_method_74_code 39 = .ok (.invokevirtual 265, 3) := by decide +kernel
theorem d_M_left_42 : decode prog_14_method_74_code 42 = .ok (.ior, 1) := by decide +kernel
theorem d_M_left_43 : decode prog_14_method_74_code 43 = .ok (.istore_n 1, 1) := by decide +kernel
theorem d_M_left_44 : decode prog_14_method_74_code 44 = .ok (.iinc 2 1, 3) := by decide +kernel
theorem d_M_left_47 : decode prog_14_method_74_code 47 = .ok (.goto (-24), 3) := by decide +kernel
theorem d_M_left_50 : decode prog_14_method_74_code 50 = .ok (.iload_n 1, 1) := by decide +kernel
theorem d_M_left_51 : decode prog_14_method_74_code 51 = .ok (.iconst (-1), 1) := by decide +kernel
theorem d_M_left_52 : decode prog_14_method_74_code 52 = .ok (.ixor, 1) := by decide +kernel
theorem d_M_left_53 : decode prog_14_method_74_code 53 = .ok (.iconst 1, 1) := by decide +kernel
theorem d_M_left_54 : decode prog_14_method_74_code 54 = .ok (.aload_n 0, 1) := by decide +kernel
theorem d_M_left_55 : decode prog_14_method_74_code 55 = .ok (.getfield 151, 3) := by decide +kernel
theorem d_M_left_58 : decode prog_14_method_74_code 58 = .ok (.ishl, 1) := by decide +kernel
theorem d_M_left_59 : decode prog_14_method_74_code 59 = .ok (.iconst 1, 1) := by decide +kernel
theorem d_M_left_60 : decode prog_14_method_74_code 60 = .ok (.isub, 1) := by decide +kernel
theorem d_M_left_61 : decode prog_14_method_74_code 61 = .ok (.iand, 1) := by decide +kernel
theorem d_M_left_62 : decode prog_14_method_74_code 62 = .ok (.ireturn, 1) := by decide +kernel
theorem d_M_same_0 : decode prog_14_method_75_code 0 = .ok (.aload_n 0, 1) := by decide +kernel
theorem d_M_same_1 : decode prog_14_method_75_code 1 = .ok (.iconst 0, 1) := by decide +kernel
theorem d_M_same_2 : decode prog_14_method_75_code 2 = .ok (.putfield 148, 3) := by decide +kernel
theorem d_M_same_5 : decode prog_14_method_75_code 5 = .ok (.aload_n 0, 1) := by decide +kernel
theorem d_M_same_6 : decode prog_14_method_75_code 6 = .ok (.invokevirtual 371, 3) := by decide +kernel
theorem d_M_same_9 : decode prog_14_method_75_code 9 = .ok (.aload_n 0, 1) := by decide +kernel
theorem d_M_same_10 : decode prog_14_method_75_code 10 = .ok (.getfield 364, 3) := by decide +kernel
theorem d_M_same_13 : decode prog_14_method_75_code 13 = .ok (.ifCond .ne 6, 3) := by decide +kernel
theorem d_M_same_16 : decode prog_14_method_75_code 16 = .ok (.bipush (-2), 2) := by decide +kernel
theorem d_M_same_18 : decode prog_14_method_75_code 18 = .ok (.ireturn, 1) := by decide +kernel
theorem d_M_same_19 : decode prog_14_method_75_code 19 = .ok (.iconst 0, 1) := by decide +kernel
theorem d_M_same_20 : decode prog_14_method_75_code 20 = .ok (.istore_n 1, 1) := by decide +kernel
theorem d_M_same_21 : decode prog_14_method_75_code 21 = .ok (.iconst 0, 1) := by decide +kernel
theorem d_M_same_22 : decode prog_14_method_75_code 22 = .ok (.istore_n 2, 1) := by decide +kernel
theorem d_M_same_23 : decode prog_14_method_75_code 23 = .ok (.iload_n 2, 1) := by decide +kernel
theorem d_M_same_24 : decode prog_14_method_75_code 24 = .ok (.aload_n 0, 1) := by decide +kernel
theorem d_M_same_25 : decode prog_14_method_75_code 25 = .ok (.getfield 158, 3) := by decide +kernel
theorem d_M_same_28 : decode prog_14_method_75_code 28 = .ok (.if_icmp .ge 72, 3) := by decide +kernel
theorem d_M_same_31 : decode prog_14_method_75_code 31 = .ok (.iconst 1, 1) := by decide +kernel
theorem d_M_same_32 : decode prog_14_method_75_code 32 = .ok (.istore_n 3, 1) := by decide +kernel
theorem d_M_same_33 : decode prog_14_method_75_code 33 = .ok (.iconst 1, 1) := by decide +kernel
theorem d_M_same_34 : decode prog_14_method_75_code 34 = .ok (.istore 4, 2) := by decide +kernel
theorem d_M_same_36 : decode prog_14_method_75_code 36 = .ok (.iload 4, 2) := by decide +kernel
theorem d_M_same_38 : decode prog_14_method_75_code 38 = .ok (.aload_n 0, 1) := by decide +kernel
theorem d_M_same_39 : decode prog_14_method_75_code 39 = .ok (.getfield 364, 3) := by decide +kernel
theorem d_M_same_42 : decode prog_14_method_75_code 42 = .ok (.if_icmp .ge 42, 3) := by decide +kernel
theorem d_M_same_45 : decode prog_14_method_75_code 45 = .ok (.iload_n 3, 1) := by decide +kernel
theorem d_M_same_46 : decode prog_14_method_75_code 46 = .ok (.ifCond .eq 30, 3) := by decide +kernel
theorem d_M_same_49 : decode prog_14_method_75_code 49 = .ok (.aload_n 0, 1) := by decide +kernel
theorem d_M_same_50 : decode prog_14_method_75_code 50 = .ok (.getfield 136, 3) := by decide +kernel
theorem d_M_same_53 : decode prog_14_method_75_code 53 = .ok (.iload 4, 2) := by decide +kernel
theorem d_M_same_55 : decode prog_14_method_75_code 55 = .ok (.iaload, 1) := by decide +kernel
theorem d_M_same_56 : decode prog_14_method_75_code 56 = .ok (.aload_n 0, 1) := by decide +kernel
theorem d_M_same_57 : decode prog_14_method_75_code 57 = .ok (.getfield 136, 3) := by decide +kernel
theorem d_M_same_60 : decode prog_14_method_75_code 60 = .ok (.iconst 0, 1) := by decide +kernel
theorem d_M_same_61 : decode prog_14_method_75_code 61 = .ok (.iaload, 1) := by decide +kernel
theorem d_M_same_62 : decode prog_14_method_75_code 62 = .ok (.ixor, 1) := by decide +kernel
theorem d_M_same_63 : decode prog_14_method_75_code 63 = .ok (.aload_n 0, 1) := by decide +kernel
theorem d_M_same_64 : decode prog_14_method_75_code 64 = .ok (.iload_n 2, 1) := by decide +kernel
theorem d_M_same_65 : decode prog_14_method_75_code 65 = .ok (.invokevirtual 306, 3) := by decide +kernel
theorem d_M_same_68 : decode prog_14_method_75_code 68 = .ok (.iand, 1) := by decide +kernel
theorem d_M_same_69 : decode prog_14_method_75_code 69 = .ok (.ifCond .ne 7, 3) := by decide +kernel
theorem d_M_same_72 : decode prog_14_method_75_code 72 = .ok (.iconst 1, 1) := by decide +kernel
theorem d_M_same_73 : decode prog_14_method_75_code 73 = .ok (.goto 4, 3) := by decide +kernel
theorem d_M_same_76 : decode prog_14_method_75_code 76 = .ok (.iconst 0, 1) := by decide +kernel
theorem d_M_same_77 : decode prog_14_method_75_code 77 = .ok (.istore_n 3, 1) := by decide +kernel
theorem d_M_same_78 : decode prog_14_method_75_code 78 = .ok (.iinc 4 1, 3) := by decide +kernel
theorem d_M_same_81 : decode prog_14_method_75_code 81 = .ok (.goto (-45), 3) := by decide +kernel
theorem d_M_same_84 : decode prog_14_method_75_code 84 = .ok (.iload_n 3, 1) := by decide +kernel
theorem d_M_same_85 : decode prog_14_method_75_code 85 = .ok (.ifCond .eq 9, 3) := by decide +kernel
theorem d_M_same_88 : decode prog_14_method_75_code 88 = .ok (.iload_n 1, 1) := by decide +kernel
theorem d_M_same_89 : decode prog_14_method_75_code 89 = .ok (.iconst 1, 1) := by decide +kernel
theorem d_M_same_90 : decode prog_14_method_75_code 90 = .ok (.iload_n 2, 1) := by decide +kernel
theorem d_M_same_91 : decode prog_14_method_75_code 91 = .ok (.ishl, 1) := by decide +kernel
theorem d_M_same_92 : decode prog_14_method_75_code 92 = .ok (.ior, 1) := by decide +kernel
theorem d_M_same_93 : decode prog_14_method_75_code 93 = .ok (.istore_n 1, 1) := by decide +kernel
theorem d_M_same_94 : decode prog_14_method_75_code 94 = .ok (.iinc 2 1, 3) := by decide +kernel
theorem d_M_same_97 : decode prog_14_method_75_code 97 = .ok (.goto (-74), 3) := by decide +kernel
theorem d_M_same_100 : decode prog_14_method_75_code 100 = .ok (.iload_n 1, 1) := by decide +kernel
theorem d_M_same_101 : decode prog_14_method_75_code 101 = .ok (.ireturn, 1) := by decide +kernel
theorem d_M_lot_0 : decode prog_14_method_76_code 0 = .ok (.aload_n 0, 1) := by decide +kernel
theorem d_M_lot_1 : decode prog_14_method_76_code 1 = .ok (.iconst 0, 1) := by decide +kernel
theorem d_M_lot_2 : decode prog_14_method_76_code 2 = .ok (.putfield 148, 3) := by decide +kernel
theorem d_M_lot_5 : decode prog_14_method_76_code 5 = .ok (.aload_n 0, 1) := by decide +kernel
theorem d_M_lot_6 : decode prog_14_method_76_code 6 = .ok (.iload_n 1, 1) := by decide +kernel
theorem d_M_lot_7 : decode prog_14_method_76_code 7 = .ok (.invokevirtual 184, 3) := by decide +kernel
theorem d_M_lot_10 : decode prog_14_method_76_code 10 = .ok (.ifCond .ne 5, 3) := by decide +kernel
theorem d_M_lot_13 : decode prog_14_method_76_code 13 = .ok (.iconst (-1), 1) := by decide +kernel
theorem d_M_lot_14 : decode prog_14_method_76_code 14 = .ok (.ireturn, 1) := by decide +kernel
theorem d_M_lot_15 : decode prog_14_method_76_code 15 = .ok (.aload_n 0, 1) := by decide +kernel
theorem d_M_lot_16 : decode prog_14_method_76_code 16 = .ok (.invokevirtual 371, 3) := by decide +kernel
theorem d_M_lot_19 : decode prog_14_method_76_code 19 = .ok (.aload_n 0, 1) := by decide +kernel
theorem d_M_lot_20 : decode prog_14_method_76_code 20 = .ok (.getfield 364, 3) := by decide +kernel
theorem d_M_lot_23 : decode prog_14_method_76_code 23 = .ok (.ifCond .ne 6, 3) := by decide +kernel
theorem d_M_lot_26 : decode prog_14_method_76_code 26 = .ok (.bipush (-2), 2) := by decide +kernel
theorem d_M_lot_28 : decode prog_14_method_76_code 28 = .ok (.ireturn, 1) := by decide +kernel
theorem d_M_lot_29 : decode prog_14_method_76_code 29 = .ok (.iconst 0, 1) := by decide +kernel
theorem d_M_lot_30 : decode prog_14_method_76_code 30 = .ok (.istore_n 2, 1) := by decide +kernel
theorem d_M_lot_31 : decode prog_14_method_76_code 31 = .ok (.iconst 0, 1) := by decide +kernel
theorem d_M_lot_32 : decode prog_14_method_76_code 32 = .ok (.istore_n 3, 1) := by decide +kernel
theorem d_M_lot_33 : decode prog_14_method_76_code 33 = .ok (.iload_n 3, 1) := by decide +kernel
theorem d_M_lot_34 : decode prog_14_method_76_code 34 = .ok (.aload_n 0, 1) := by decide +kernel
theorem d_M_lot_35 : decode prog_14_method_76_code 35 = .ok (.getfield 364, 3) := by decide +kernel
theorem d_M_lot_38 : decode prog_14_method_76_code 38 = .ok (.if_icmp .ge 30, 3) := by decide +kernel
theorem d_M_lot_41 : decode prog_14_method_76_code 41 = .ok (.iload_n 2, 1) := by decide +kernel
theorem d_M_lot_42 : decode prog_14_method_76_code 42 = .ok (.aload_n 0, 1) := by decide +kernel
theorem d_M_lot_43 : decode prog_14_method_76_code 43 = .ok (.getfield 136, 3) := by decide +kernel
theorem d_M_lot_46 : decode prog_14_method_76_code 46 = .ok (.iload_n 3, 1) := by decide +kernel
theorem d_M_lot_47 : decode prog_14_method_76_code 47 = .ok (.iaload, 1) := by decide +kernel
theorem d_M_lot_48 : decode prog_14_method_76_code 48 = .ok (.iload_n 1, 1) := by decide +kernel
theorem d_M_lot_49 : decode prog_14_method_76_code 49 = .ok (.invokestatic 262, 3) := by decide +kernel
theorem d_M_lot_52 : decode prog_14_method_76_code 52 = .ok (.ifCond .eq 7, 3) := by decide +kernel
theorem d_M_lot_55 : decode prog_14_method_76_code 55 = .ok (.iconst 1, 1) := by decide +kernel
theorem d_M_lot_56 : decode prog_14_method_76_code 56 = .ok (.goto 4, 3) := by decide +kernel
theorem d_M_lot_59 : decode prog_14_method_76_code 59 = .ok (.iconst 0, 1) := by decide +kernel
theorem d_M_lot_60 : decode prog_14_method_76_code 60 = .ok (.iadd, 1) := by decide +kernel
theorem d_M_lot_61 : decode prog_14_method_76_code 61 = .ok (.istore_n 2, 1) := by decide +kernel
theorem d_M_lot_62 : decode prog_14_method_76_code 62 = .ok (.iinc 3 1, 3) := by decide +kernel
theorem d_M_lot_65 : decode prog_14_method_76_code 65 = .ok (.goto (-32), 3) := by decide +kernel
theorem d_M_lot_68 : decode prog_14_method_76_code 68 = .ok (.iload_n 2, 1) := by decide +kernel
theorem d_M_lot_69 : decode prog_14_method_76_code 69 = .ok (.istore_n 3, 1) := by decide +kernel
theorem d_M_lot_70 : decode prog_14_method_76_code 70 = .ok (.aload_n 0, 1) := by decide +kernel
theorem d_M_lot_71 : decode prog_14_method_76_code 71 = .ok (.getfield 364, 3) := by decide +kernel
theorem d_M_lot_74 : decode prog_14_method_76_code 74 = .ok (.istore 4, 2) := by decide +kernel
theorem d_M_lot_76 : decode prog_14_method_76_code 76 = .ok (.iload 4, 2) := by decide +kernel
theorem d_M_lot_78 : decode prog_14_method_76_code 78 = .ok (.ifCond .eq 19, 3) := by decide +kernel
theorem d_M_lot_81 : decode prog_14_method_76_code 81 = .ok (.iload_n 3, 1) := by decide +kernel
theorem d_M_lot_82 : decode prog_14_method_76_code 82 = .ok (.iload 4, 2) := by decide +kernel
theorem d_M_lot_84 : decode prog_14_method_76_code 84 = .ok (.irem, 1) := by decide +kernel
theorem d_M_lot_85 : decode prog_14_method_76_code 85 = .ok (.istore 5, 2) := by decide +kernel
theorem d_M_lot_87 : decode prog_14_method_76_code 87 = .ok (.iload 4, 2) := by decide +kernel
theorem d_M_lot_89 : decode prog_14_method_76_code 89 = .ok (.istore_n 3, 1) := by decide +kernel
theorem d_M_lot_90 : decode prog_14_method_76_code 90 = .ok (.iload 5, 2) := by decide +kernel
theorem d_M_lot_92 : decode prog_14_method_76_code 92 = .ok (.istore 4, 2) := by decide +kernel
theorem d_M_lot_94 : decode prog_14_method_76_code 94 = .ok (.goto (-18), 3) := by decide +kernel
theorem d_M_lot_97 : decode prog_14_method_76_code 97 = .ok (.aload_n 0, 1) := by decide +kernel
theorem d_M_lot_98 : decode prog_14_method_76_code 98 = .ok (.iconst 0, 1) := by decide +kernel
theorem d_M_lot_99 : decode prog_14_method_76_code 99 = .ok (.putfield 170, 3) := by decide +kernel
theorem d_M_lot_102 : decode prog_14_method_76_code 102 = .ok (.aload_n 0, 1) := by decide +kernel
theorem d_M_lot_103 : decode prog_14_method_76_code 103 = .ok (.iload_n 2, 1) := by decide +kernel
theorem d_M_lot_104 : decode prog_14_method_76_code 104 = .ok (.iload_n 3, 1) := by decide +kernel
theorem d_M_lot_105 : decode prog_14_method_76_code 105 = .ok (.idiv, 1) := by decide +kernel
theorem d_M_lot_106 : decode prog_14_method_76_code 106 = .ok (.invokevirtual 309, 3) := by decide +kernel
theorem d_M_lot_109 : decode prog_14_method_76_code 109 = .ok (.aload_n 0, 1) := by decide +kernel
theorem d_M_lot_110 : decode prog_14_method_76_code 110 = .ok (.aload_n 0, 1) := by decide +kernel
theorem d_M_lot_111 : decode prog_14_method_76_code 111 = .ok (.getfield 364, 3) := by decide +kernel
theorem d_M_lot_114 : decode prog_14_method_76_code 114 = .ok (.iload_n 3, 1) := by decide +kernel
theorem d_M_lot_115 : decode prog_14_method_76_code 115 = .ok (.idiv, 1) := by decide +kernel
theorem d_M_lot_116 : decode prog_14_method_76_code 116 = .ok (.invokevirtual 309, 3) := by decide +kernel
theorem d_M_lot_119 : decode prog_14_method_76_code 119 = .ok (.sipush 1000, 3) := by decide +kernel
theorem d_M_lot_122 : decode prog_14_method_76_code 122 = .ok (.iload_n 2, 1) := by decide +kernel
theorem d_M_lot_123 : decode prog_14_method_76_code 123 = .ok (.imul, 1) := by decide +kernel
theorem d_M_lot_124 : decode prog_14_method_76_code 124 = .ok (.aload_n 0, 1) := by decide +kernel
theorem d_M_lot_125 : decode prog_14_method_76_code 125 = .ok (.getfield 364, 3) := by decide +kernel
theorem d_M_lot_128 : decode prog_14_method_76_code 128 = .ok (.idiv, 1) := by decide +kernel
theorem d_M_lot_129 : decode prog_14_method_76_code 129 = .ok (.ireturn, 1) := by decide +kernel
theorem d_M_mean_0 : decode prog_14_method_77_code 0 = .ok (.aload_n 0, 1) := by decide +kernel
theorem d_M_mean_1 : decode prog_14_method_77_code 1 = .ok (.iconst 0, 1) := by decide +kernel
theorem d_M_mean_2 : decode prog_14_method_77_code 2 = .ok (.putfield 148, 3) := by decide +kernel
theorem d_M_mean_5 : decode prog_14_method_77_code 5 = .ok (.aload_n 0, 1) := by decide +kernel
theorem d_M_mean_6 : decode prog_14_method_77_code 6 = .ok (.invokevirtual 371, 3) := by decide +kernel
theorem d_M_mean_9 : decode prog_14_method_77_code 9 = .ok (.aload_n 0, 1) := by decide +kernel
theorem d_M_mean_10 : decode prog_14_method_77_code 10 = .ok (.getfield 364, 3) := by decide +kernel
theorem d_M_mean_13 : decode prog_14_method_77_code 13 = .ok (.ifCond .ne 6, 3) := by decide +kernel
theorem d_M_mean_16 : decode prog_14_method_77_code 16 = .ok (.bipush (-2), 2) := by decide +kernel
theorem d_M_mean_18 : decode prog_14_method_77_code 18 = .ok (.ireturn, 1) := by decide +kernel
theorem d_M_mean_19 : decode prog_14_method_77_code 19 = .ok (.iconst 0, 1) := by decide +kernel
theorem d_M_mean_20 : decode prog_14_method_77_code 20 = .ok (.istore_n 1, 1) := by decide +kernel
theorem d_M_mean_21 : decode prog_14_method_77_code 21 = .ok (.iconst 0, 1) := by decide +kernel
theorem d_M_mean_22 : decode prog_14_method_77_code 22 = .ok (.istore_n 2, 1) := by decide +kernel
theorem d_M_mean_23 : decode prog_14_method_77_code 23 = .ok (.iload_n 2, 1) := by decide +kernel
theorem d_M_mean_24 : decode prog_14_method_77_code 24 = .ok (.aload_n 0, 1) := by decide +kernel
theorem d_M_mean_25 : decode prog_14_method_77_code 25 = .ok (.getfield 151, 3) := by decide +kernel
theorem d_M_mean_28 : decode prog_14_method_77_code 28 = .ok (.if_icmp .ge 129, 3) := by decide +kernel
theorem d_M_mean_31 : decode prog_14_method_77_code 31 = .ok (.aload_n 0, 1) := by decide +kernel
theorem d_M_mean_32 : decode prog_14_method_77_code 32 = .ok (.iload_n 2, 1) := by decide +kernel
theorem d_M_mean_33 : decode prog_14_method_77_code 33 = .ok (.invokevirtual 193, 3) := by decide +kernel
theorem d_M_mean_36 : decode prog_14_method_77_code 36 = .ok (.iconst (-1), 1) := by decide +kernel
theorem d_M_mean_37 : decode prog_14_method_77_code 37 = .ok (.if_icmp .eq 6, 3) := by decide +kernel
theorem d_M_mean_40 : decode prog_14_method_77_code 40 = .ok (.goto 111, 3) := by decide +kernel
theorem d_M_mean_43 : decode prog_14_method_77_code 43 = .ok (.aload_n 0, 1) := by decide +kernel
theorem d_M_mean_44 : decode prog_14_method_77_code 44 = .ok (.getfield 364, 3) := by decide +kernel
theorem d_M_mean_47 : decode prog_14_method_77_code 47 = .ok (.iconst 1, 1) := by decide +kernel
theorem d_M_mean_48 : decode prog_14_method_77_code 48 = .ok (.isub, 1) := by decide +kernel
theorem d_M_mean_49 : decode prog_14_method_77_code 49 = .ok (.iconst 2, 1) := by decide +kernel
theorem d_M_mean_50 : decode prog_14_method_77_code 50 = .ok (.idiv, 1) := by decide +kernel
theorem d_M_mean_51 : decode prog_14_method_77_code 51 = .ok (.istore_n 3, 1) := by decide +kernel
theorem d_M_mean_52 : decode prog_14_method_77_code 52 = .ok (.iconst 0, 1) := by decide +kernel
theorem d_M_mean_53 : decode prog_14_method_77_code 53 = .ok (.istore 4, 2) := by decide +kernel
theorem d_M_mean_55 : decode prog_14_method_77_code 55 = .ok (.iload 4, 2) := by decide +kernel
theorem d_M_mean_57 : decode prog_14_method_77_code 57 = .ok (.aload_n 0, 1) := by decide +kernel
theorem d_M_mean_58 : decode prog_14_method_77_code 58 = .ok (.getfield 31, 3) := by decide +kernel
theorem d_M_mean_61 : decode prog_14_method_77_code 61 = .ok (.iload_n 2, 1) := by decide +kernel
theorem d_M_mean_62 : decode prog_14_method_77_code 62 = .ok (.iaload, 1) := by decide +kernel
theorem d_M_mean_63 : decode prog_14_method_77_code 63 = .ok (.if_icmp .ge 88, 3) := by decide +kernel
theorem d_M_mean_66 : decode prog_14_method_77_code 66 = .ok (.iconst 0, 1) := by decide +kernel
theorem d_M_mean_67 : decode prog_14_method_77_code 67 = .ok (.istore 5, 2) := by decide +kernel
theorem d_M_mean_69 : decode prog_14_method_77_code 69 = .ok (.iconst 0, 1) := by decide +kernel
theorem d_M_mean_70 : decode prog_14_method_77_code 70 = .ok (.istore 6, 2) := by decide +kernel
theorem d_M_mean_72 : decode prog_14_method_77_code 72 = .ok (.iload 6, 2) := by decide +kernel
theorem d_M_mean_74 : decode prog_14_method_77_code 74 = .ok (.aload_n 0, 1) := by decide +kernel
theorem d_M_mean_75 : decode prog_14_method_77_code 75 = .ok (.getfield 364, 3) := by decide +kernel
theorem d_M_mean_78 : decode prog_14_method_77_code 78 = .ok (.if_icmp .ge 36, 3) := by decide +kernel
theorem d_M_mean_81 : decode prog_14_method_77_code 81 = .ok (.iload 5, 2) := by decide +kernel
theorem d_M_mean_83 : decode prog_14_method_77_code 83 = .ok (.aload_n 0, 1) := by decide +kernel
theorem d_M_mean_84 : decode prog_14_method_77_code 84 = .ok (.aload_n 0, 1) := by decide +kernel
theorem d_M_mean_85 : decode prog_14_method_77_code 85 = .ok (.getfield 136, 3) := by decide +kernel
theorem d_M_mean_88 : decode prog_14_method_77_code 88 = .ok (.iload 6, 2) := by decide +kernel
theorem d_M_mean_90 : decode prog_14_method_77_code 90 = .ok (.iaload, 1) := by decide +kernel
theorem d_M_mean_91 : decode prog_14_method_77_code 91 = .ok (.iload_n 2, 1) := by decide +kernel
theorem d_M_mean_92 : decode prog_14_method_77_code 92 = .ok (.invokevirtual 318, 3) := by decide +kernel
theorem d_M_mean_95 : decode prog_14_method_77_code 95 = .ok (.iload 4, 2) := by decide +kernel
theorem d_M_mean_97 : decode prog_14_method_77_code 97 = .ok (.if_icmp .ne 7, 3) := by decide +kernel
theorem d_M_mean_100 : decode prog_14_method_77_code 100 = .ok (.iconst 1, 1) := by decide +kernel
theorem d_M_mean_101 : decode prog_14_method_77_code 101 = .ok (.goto 4, 3) := by decide +kernel
theorem d_M_mean_104 : decode prog_14_method_77_code 104 = .ok (.iconst 0, 1) := by decide +kernel
theorem d_M_mean_105 : decode prog_14_method_77_code 105 = .ok (.iadd, 1) := by decide +kernel
theorem d_M_mean_106 : decode prog_14_method_77_code 106 = .ok (.istore 5, 2) := by decide +kernel
theorem d_M_mean_108 : decode prog_14_method_77_code 108 = .ok (.iinc 6 1, 3) := by decide +kernel
theorem d_M_mean_111 : decode prog_14_method_77_code 111 = .ok (.goto (-39), 3) := by decide +kernel
theorem d_M_mean_114 : decode prog_14_method_77_code 114 = .ok (.iload_n 3, 1) := by decide +kernel
theorem d_M_mean_115 : decode prog_14_method_77_code 115 = .ok (.ifCond .lt 25, 3) := by decide +kernel
theorem d_M_mean_118 : decode prog_14_method_77_code 118 = .ok (.iload_n 3, 1) := by decide +kernel
theorem d_M_mean_119 : decode prog_14_method_77_code 119 = .ok (.iload 5, 2) := by decide +kernel
theorem d_M_mean_121 : decode prog_14_method_77_code 121 = .ok (.if_icmp .ge 19, 3) := by decide +kernel
theorem d_M_mean_124 : decode prog_14_method_77_code 124 = .ok (.iload_n 1, 1) := by decide +kernel
theorem d_M_mean_125 : decode prog_14_method_77_code 125 = .ok (.iconst 1, 1) := by decide +kernel
theorem d_M_mean_126 : decode prog_14_method_77_code 126 = .ok (.aload_n 0, 1) := by decide +kernel
theorem d_M_mean_127 : decode prog_14_method_77_code 127 = .ok (.getfield 28, 3) := by decide +kernel
theorem d_M_mean_130 : decode prog_14_method_77_code 130 = .ok (.iconst 5, 1) := by decide +kernel
theorem d_M_mean_131 : decode prog_14_method_77_code 131 = .ok (.iload_n 2, 1) := by decide +kernel
theorem d_M_mean_132 : decode prog_14_method_77_code 132 = .ok (.imul, 1) := by decide +kernel
theorem d_M_mean_133 : decode prog_14_method_77_code 133 = .ok (.iload 4, 2) := by decide +kernel
theorem d_M_mean_135 : decode prog_14_method_77_code 135 = .ok (.iadd, 1) := by decide +kernel
theorem d_M_mean_136 : decode prog_14_method_77_code 136 = .ok (.iaload, 1) := by decide +kernel
theorem d_M_mean_137 : decode prog_14_method_77_code 137 = .ok (.ishl, 1) := by decide +kernel
theorem d_M_mean_138 : decode prog_14_method_77_code 138 = .ok (.ior, 1) := by decide +kernel
theorem d_M_mean_139 : decode prog_14_method_77_code 139 = .ok (.istore_n 1, 1) := by decide +kernel
theorem d_M_mean_140 : decode prog_14_method_77_code 140 = .ok (.iload_n 3, 1) := by decide +kernel
theorem d_M_mean_141 : decode prog_14_method_77_code 141 = .ok (.iload 5, 2) := by decide +kernel
theorem d_M_mean_143 : decode prog_14_method_77_code 143 = .ok (.isub, 1) := by decide +kernel
theorem d_M_mean_144 : decode prog_14_method_77_code 144 = .ok (.istore_n 3, 1) := by decide +kernel
theorem d_M_mean_145 : decode prog_14_method_77_code 145 = .ok (.iinc 4 1, 3) := by decide +kernel
theorem d_M_mean_148 : decode prog_14_method_77_code 148 = .ok (.goto (-93), 3) := by decide +kernel
theorem d_M_mean_151 : decode prog_14_method_77_code 151 = .ok (.iinc 2 1, 3) := by decide +kernel
theorem d_M_mean_154 : decode prog_14_method_77_code 154 = .ok (.goto (-131), 3) := by decide +kernel
theorem d_M_mean_157 : decode prog_14_method_77_code 157 = .ok (.iload_n 1, 1) := by decide +kernel
theorem d_M_mean_158 : decode prog_14_method_77_code 158 = .ok (.ireturn, 1) := by decide +kernel
theorem d_M_gone_0 : decode prog_14_method_78_code 0 = .ok (.aload_n 0, 1) := by decide +kernel
theorem d_M_gone_1 : decode prog_14_method_78_code 1 = .ok (.iconst 0, 1) := by decide +kernel
theorem d_M_gone_2 : decode prog_14_method_78_code 2 = .ok (.putfield 148, 3) := by decide +kernel
theorem d_M_gone_5 : decode prog_14_method_78_code 5 = .ok (.iload_n 1, 1) := by decide +kernel
theorem d_M_gone_6 : decode prog_14_method_78_code 6 = .ok (.iconst 0, 1) := by decide +kernel
theorem d_M_gone_7 : decode prog_14_method_78_code 7 = .ok (.iconst 1, 1) := by decide +kernel
theorem d_M_gone_8 : decode prog_14_method_78_code 8 = .ok (.invokestatic 154, 3) := by decide +kernel
theorem d_M_gone_11 : decode prog_14_method_78_code 11 = .ok (.ifCond .eq 26, 3) := by decide +kernel
theorem d_M_gone_14 : decode prog_14_method_78_code 14 = .ok (.iload_n 1, 1) := by decide +kernel
theorem d_M_gone_15 : decode prog_14_method_78_code 15 = .ok (.ifCond .ne 14, 3) := by decide +kernel
theorem d_M_gone_18 : decode prog_14_method_78_code 18 = .ok (.aload_n 0, 1) := by decide +kernel
theorem d_M_gone_19 : decode prog_14_method_78_code 19 = .ok (.iload_n 2, 1) := by decide +kernel
theorem d_M_gone_20 : decode prog_14_method_78_code 20 = .ok (.invokevirtual 177, 3) := by decide +kernel
theorem d_M_gone_23 : decode prog_14_method_78_code 23 = .ok (.ifCond .ne 16, 3) := by decide +kernel
theorem d_M_gone_26 : decode prog_14_method_78_code 26 = .ok (.goto 11, 3) := by decide +kernel
theorem d_M_gone_29 : decode prog_14_method_78_code 29 = .ok (.aload_n 0, 1) := by decide +kernel
theorem d_M_gone_30 : decode prog_14_method_78_code 30 = .ok (.iload_n 2, 1) := by decide +kernel
theorem d_M_gone_31 : decode prog_14_method_78_code 31 = .ok (.invokevirtual 184, 3) := by decide +kernel
theorem d_M_gone_34 : decode prog_14_method_78_code 34 = .ok (.ifCond .ne 5, 3) := by decide +kernel
theorem d_M_gone_37 : decode prog_14_method_78_code 37 = .ok (.iconst (-1), 1) := by decide +kernel
theorem d_M_gone_38 : decode prog_14_method_78_code 38 = .ok (.ireturn, 1) := by decide +kernel
theorem d_M_gone_39 : decode prog_14_method_78_code 39 = .ok (.aload_n 0, 1) := by decide +kernel
theorem d_M_gone_40 : decode prog_14_method_78_code 40 = .ok (.invokevirtual 358, 3) := by decide +kernel
theorem d_M_gone_43 : decode prog_14_method_78_code 43 = .ok (.istore_n 3, 1) := by decide +kernel
theorem d_M_gone_44 : decode prog_14_method_78_code 44 = .ok (.iload_n 1, 1) := by decide +kernel
theorem d_M_gone_45 : decode prog_14_method_78_code 45 = .ok (.ifCond .ne 11, 3) := by decide +kernel
theorem d_M_gone_48 : decode prog_14_method_78_code 48 = .ok (.aload_n 0, 1) := by decide +kernel
theorem d_M_gone_49 : decode prog_14_method_78_code 49 = .ok (.iload_n 2, 1) := by decide +kernel
theorem d_M_gone_50 : decode prog_14_method_78_code 50 = .ok (.putfield 130, 3) := by decide +kernel
theorem d_M_gone_53 : decode prog_14_method_78_code 53 = .ok (.goto 8, 3) := by decide +kernel
theorem d_M_gone_56 : decode prog_14_method_78_code 56 = .ok (.aload_n 0, 1) := by decide +kernel
theorem d_M_gone_57 : decode prog_14_method_78_code 57 = .ok (.iload_n 2, 1) := by decide +kernel
theorem d_M_gone_58 : decode prog_14_method_78_code 58 = .ok (.putfield 133, 3) := by decide +kernel
theorem d_M_gone_61 : decode prog_14_method_78_code 61 = .ok (.aload_n 0, 1) := by decide +kernel
theorem d_M_gone_62 : decode prog_14_method_78_code 62 = .ok (.invokevirtual 358, 3) := by decide +kernel
theorem d_M_gone_65 : decode prog_14_method_78_code 65 = .ok (.istore 4, 2) := by decide +kernel
theorem d_M_gone_67 : decode prog_14_method_78_code 67 = .ok (.aload_n 0, 1) := by decide +kernel
theorem d_M_gone_68 : decode prog_14_method_78_code 68 = .ok (.iconst (-1), 1) := by decide +kernel
theorem d_M_gone_69 : decode prog_14_method_78_code 69 = .ok (.putfield 130, 3) := by decide +kernel
theorem d_M_gone_72 : decode prog_14_method_78_code 72 = .ok (.aload_n 0, 1) := by decide +kernel
theorem d_M_gone_73 : decode prog_14_method_78_code 73 = .ok (.iconst (-1), 1) := by decide +kernel
theorem d_M_gone_74 : decode prog_14_method_78_code 74 = .ok (.putfield 133, 3) := by decide +kernel
theorem d_M_gone_77 : decode prog_14_method_78_code 77 = .ok (.iload_n 3, 1) := by decide +kernel
theorem d_M_gone_78 : decode prog_14_method_78_code 78 = .ok (.ifCond .lt 8, 3) := by decide +kernel
theorem d_M_gone_81 : decode prog_14_method_78_code 81 = .ok (.iload 4, 2) := by decide +kernel
theorem d_M_gone_83 : decode prog_14_method_78_code 83 = .ok (.ifCond .ge 6, 3) := by decide +kernel
theorem d_M_gone_86 : decode prog_14_method_78_code 86 = .ok (.bipush (-3), 2) := by decide +kernel
theorem d_M_gone_88 : decode prog_14_method_78_code 88 = .ok (.ireturn, 1) := by decide +kernel
theorem d_M_gone_89 : decode prog_14_method_78_code 89 = .ok (.iconst 0, 1) := by decide +kernel
theorem d_M_gone_90 : decode prog_14_method_78_code 90 = .ok (.istore 5, 2) := by decide +kernel
theorem d_M_gone_92 : decode prog_14_method_78_code 92 = .ok (.iconst 0, 1) := by decide +kernel
theorem d_M_gone_93 : decode prog_14_method_78_code 93 = .ok (.istore 6, 2) := by decide +kernel
theorem d_M_gone_95 : decode prog_14_method_78_code 95 = .ok (.iload 6, 2) := by decide +kernel
theorem d_M_gone_97 : decode prog_14_method_78_code 97 = .ok (.aload_n 0, 1) := by decide +kernel
theorem d_M_gone_98 : decode prog_14_method_78_code 98 = .ok (.getfield 151, 3) := by decide +kernel
theorem d_M_gone_101 : decode prog_14_method_78_code 101 = .ok (.if_icmp .ge 36, 3) := by decide +kernel
theorem d_M_gone_104 : decode prog_14_method_78_code 104 = .ok (.aload_n 0, 1) := by decide +kernel
theorem d_M_gone_105 : decode prog_14_method_78_code 105 = .ok (.iload_n 3, 1) := by decide +kernel
theorem d_M_gone_106 : decode prog_14_method_78_code 106 = .ok (.iload 6, 2) := by decide +kernel
theorem d_M_gone_108 : decode prog_14_method_78_code 108 = .ok (.invokevirtual 315, 3) := by decide +kernel
theorem d_M_gone_111 : decode prog_14_method_78_code 111 = .ok (.aload_n 0, 1) := by decide +kernel
theorem d_M_gone_112 : decode prog_14_method_78_code 112 = .ok (.iload 4, 2) := by decide +kernel
theorem d_M_gone_114 : decode prog_14_method_78_code 114 = .ok (.iload 6, 2) := by decide +kernel
theorem d_M_gone_116 : decode prog_14_method_78_code 116 = .ok (.invokevirtual 315, 3) := by decide +kernel
theorem d_M_gone_119 : decode prog_14_method_78_code 119 = .ok (.if_icmp .eq 12, 3) := by decide +kernel
theorem d_M_gone_122 : decode prog_14_method_78_code 122 = .ok (.iload 5, 2) := by decide +kernel
theorem d_M_gone_124 : decode prog_14_method_78_code 124 = .ok (.iconst 1, 1) := by decide +kernel
theorem d_M_gone_125 : decode prog_14_method_78_code 125 = .ok (.iload 6, 2) := by decide +kernel
theorem d_M_gone_127 : decode prog_14_method_78_code 127 = .ok (.ishl, 1) := by decide +kernel
theorem d_M_gone_128 : decode prog_14_method_78_code 128 = .ok (.ior, 1) := by decide +kernel
theorem d_M_gone_129 : decode prog_14_method_78_code 129 = .ok (.istore 5, 2) := by decide +kernel
theorem d_M_gone_131 : decode prog_14_method_78_code 131 = .ok (.iinc 6 1, 3) := by decide +kernel
theorem d_M_gone_134 : decode prog_14_method_78_code 134 = .ok (.goto (-39), 3) := by decide +kernel
theorem d_M_gone_137 : decode prog_14_method_78_code 137 = .ok (.aload_n 0, 1) := by decide +kernel
theorem d_M_gone_138 : decode prog_14_method_78_code 138 = .ok (.iconst 0, 1) := by decide +kernel
theorem d_M_gone_139 : decode prog_14_method_78_code 139 = .ok (.putfield 170, 3) := by decide +kernel
theorem d_M_gone_142 : decode prog_14_method_78_code 142 = .ok (.aload_n 0, 1) := by decide +kernel
theorem d_M_gone_143 : decode prog_14_method_78_code 143 = .ok (.iload 4, 2) := by decide +kernel
theorem d_M_gone_145 : decode prog_14_method_78_code 145 = .ok (.invokevirtual 309, 3) := by decide +kernel
theorem d_M_gone_148 : decode prog_14_method_78_code 148 = .ok (.aload_n 0, 1) := by decide +kernel
theorem d_M_gone_149 : decode prog_14_method_78_code 149 = .ok (.iload 5, 2) := by decide +kernel
theorem d_M_gone_151 : decode prog_14_method_78_code 151 = .ok (.invokevirtual 309, 3) := by decide +kernel
theorem d_M_gone_154 : decode prog_14_method_78_code 154 = .ok (.iload 5, 2) := by decide +kernel
theorem d_M_gone_156 : decode prog_14_method_78_code 156 = .ok (.invokestatic 268, 3) := by decide +kernel
theorem d_M_gone_159 : decode prog_14_method_78_code 159 = .ok (.ireturn, 1) := by decide +kernel
theorem d_M_count_0 : decode prog_14_method_79_code 0 = .ok (.aload_n 0, 1) := by decide +kernel
theorem d_M_count_1 : decode prog_14_method_79_code 1 = .ok (.iconst 0, 1) := by decide +kernel
theorem d_M_count_2 : decode prog_14_method_79_code 2 = .ok (.putfield 148, 3) := by decide +kernel
theorem d_M_count_5 : decode prog_14_method_79_code 5 = .ok (.iload_n 1, 1) := by decide +kernel
theorem d_M_count_6 : decode prog_14_method_79_code 6 = .ok (.tableswitch 68 0 5 #[38, 43, 48, 53, 58, 63], 38) := by decide +kernel
theorem d_M_count_44 : decode prog_14_method_79_code 44 = .ok (.aload_n 0, 1) := by decide +kernel
theorem d_M_count_45 : decode prog_14_method_79_code 45 = .ok (.getfield 151, 3) := by decide +kernel
theorem d_M_count_48 : decode prog_14_method_79_code 48 = .ok (.ireturn, 1) := by decide +kernel
theorem d_M_count_49 : decode prog_14_method_79_code 49 = .ok (.aload_n 0, 1) := by decide +kernel
theorem d_M_count_50 : decode prog_14_method_79_code 50 = .ok (.getfield 158, 3) := by decide +kernel
theorem d_M_count_53 : decode prog_14_method_79_code 53 = .ok (.ireturn, 1) := by decide +kernel
theorem d_M_count_54 : decode prog_14_method_79_code 54 = .ok (.aload_n 0, 1) := by decide +kernel
theorem d_M_count_55 : decode prog_14_method_79_code 55 = .ok (.getfield 161, 3) := by decide +kernel
theorem d_M_count_58 : decode prog_14_method_79_code 58 = .ok (.ireturn, 1) := by decide +kernel
theorem d_M_count_59 : decode prog_14_method_79_code 59 = .ok (.aload_n 0, 1) := by decide +kernel
theorem d_M_count_60 : decode prog_14_method_79_code 60 = .ok (.getfield 190, 3) := by decide +kernel
theorem d_M_count_63 : decode prog_14_method_79_code 63 = .ok (.ireturn, 1) := by decide +kernel
theorem d_M_count_64 : decode prog_14_method_79_code 64 = .ok (.aload_n 0, 1) := by decide +kernel
theorem d_M_count_65 : decode prog_14_method_79_code 65 = .ok (.getfield 200, 3) := by decide +kernel
theorem d_M_count_68 : decode prog_14_method_79_code 68 = .ok (.ireturn, 1) := by decide +kernel
theorem d_M_count_69 : decode prog_14_method_79_code 69 = .ok (.aload_n 0, 1) := by decide +kernel
theorem d_M_count_70 : decode prog_14_method_79_code 70 = .ok (.getfield 170, 3) := by decide +kernel
theorem d_M_count_73 : decode prog_14_method_79_code 73 = .ok (.ireturn, 1) := by decide +kernel
theorem d_M_count_74 : decode prog_14_method_79_code 74 = .ok (.iconst (-1), 1) := by decide +kernel
theorem d_M_count_75 : decode prog_14_method_79_code 75 = .ok (.ireturn, 1) := by decide +kernel
theorem d_M_of_0 : decode prog_14_method_80_code 0 = .ok (.aload_n 0, 1) := by decide +kernel
theorem d_M_of_1 : decode prog_14_method_80_code 1 = .ok (.iconst 0, 1) := by decide +kernel
theorem d_M_of_2 : decode prog_14_method_80_code 2 = .ok (.putfield 148, 3) := by decide +kernel
theorem d_M_of_5 : decode prog_14_method_80_code 5 = .ok (.aload_n 0, 1) := by decide +kernel
theorem d_M_of_6 : decode prog_14_method_80_code 6 = .ok (.iload_n 1, 1) := by decide +kernel
theorem d_M_of_7 : decode prog_14_method_80_code 7 = .ok (.invokevirtual 184, 3) := by decide +kernel
theorem d_M_of_10 : decode prog_14_method_80_code 10 = .ok (.ifCond .ne 5, 3) := by decide +kernel
theorem d_M_of_13 : decode prog_14_method_80_code 13 = .ok (.iconst (-1), 1) := by decide +kernel
theorem d_M_of_14 : decode prog_14_method_80_code 14 = .ok (.ireturn, 1) := by decide +kernel
theorem d_M_of_15 : decode prog_14_method_80_code 15 = .ok (.iload_n 2, 1) := by decide +kernel
theorem d_M_of_16 : decode prog_14_method_80_code 16 = .ok (.tableswitch 81 0 5 #[40, 47, 54, 61, 68, 75], 40) := by decide +kernel
theorem d_M_of_56 : decode prog_14_method_80_code 56 = .ok (.aload_n 0, 1) := by decide +kernel
theorem d_M_of_57 : decode prog_14_method_80_code 57 = .ok (.getfield 13, 3) := by decide +kernel
theorem d_M_of_60 : decode prog_14_method_80_code 60 = .ok (.iload_n 1, 1) := by decide +kernel
theorem d_M_of_61 : decode prog_14_method_80_code 61 = .ok (.iaload, 1) := by decide +kernel
theorem d_M_of_62 : decode prog_14_method_80_code 62 = .ok (.ireturn, 1) := by decide +kernel
theorem d_M_of_63 : decode prog_14_method_80_code 63 = .ok (.aload_n 0, 1) := by decide +kernel
theorem d_M_of_64 : decode prog_14_method_80_code 64 = .ok (.getfield 16, 3) := by decide +kernel
theorem d_M_of_67 : decode prog_14_method_80_code 67 = .ok (.iload_n 1, 1) := by decide +kernel
theorem d_M_of_68 : decode prog_14_method_80_code 68 = .ok (.iaload, 1) := by decide +kernel
theorem d_M_of_69 : decode prog_14_method_80_code 69 = .ok (.ireturn, 1) := by decide +kernel
theorem d_M_of_70 : decode prog_14_method_80_code 70 = .ok (.aload_n 0, 1) := by decide +kernel
theorem d_M_of_71 : decode prog_14_method_80_code 71 = .ok (.getfield 19, 3) := by decide +kernel
theorem d_M_of_74 : decode prog_14_method_80_code 74 = .ok (.iload_n 1, 1) := by decide +kernel
theorem d_M_of_75 : decode prog_14_method_80_code 75 = .ok (.iaload, 1) := by decide +kernel
theorem d_M_of_76 : decode prog_14_method_80_code 76 = .ok (.ireturn, 1) := by decide +kernel
theorem d_M_of_77 : decode prog_14_method_80_code 77 = .ok (.aload_n 0, 1) := by decide +kernel
theorem d_M_of_78 : decode prog_14_method_80_code 78 = .ok (.getfield 22, 3) := by decide +kernel
theorem d_M_of_81 : decode prog_14_method_80_code 81 = .ok (.iload_n 1, 1) := by decide +kernel
theorem d_M_of_82 : decode prog_14_method_80_code 82 = .ok (.iaload, 1) := by decide +kernel
theorem d_M_of_83 : decode prog_14_method_80_code 83 = .ok (.ireturn, 1) := by decide +kernel
theorem d_M_of_84 : decode prog_14_method_80_code 84 = .ok (.aload_n 0, 1) := by decide +kernel
theorem d_M_of_85 : decode prog_14_method_80_code 85 = .ok (.getfield 25, 3) := by decide +kernel
theorem d_M_of_88 : decode prog_14_method_80_code 88 = .ok (.iload_n 1, 1) := by decide +kernel
theorem d_M_of_89 : decode prog_14_method_80_code 89 = .ok (.iaload, 1) := by decide +kernel
theorem d_M_of_90 : decode prog_14_method_80_code 90 = .ok (.ireturn, 1) := by decide +kernel
theorem d_M_of_91 : decode prog_14_method_80_code 91 = .ok (.aload_n 0, 1) := by decide +kernel
theorem d_M_of_92 : decode prog_14_method_80_code 92 = .ok (.iload_n 1, 1) := by decide +kernel
theorem d_M_of_93 : decode prog_14_method_80_code 93 = .ok (.invokevirtual 187, 3) := by decide +kernel
theorem d_M_of_96 : decode prog_14_method_80_code 96 = .ok (.ireturn, 1) := by decide +kernel
theorem d_M_of_97 : decode prog_14_method_80_code 97 = .ok (.iconst (-1), 1) := by decide +kernel
theorem d_M_of_98 : decode prog_14_method_80_code 98 = .ok (.ireturn, 1) := by decide +kernel
theorem d_M_row_0 : decode prog_14_method_81_code 0 = .ok (.aload_n 0, 1) := by decide +kernel
theorem d_M_row_1 : decode prog_14_method_81_code 1 = .ok (.iconst 0, 1) := by decide +kernel
theorem d_M_row_2 : decode prog_14_method_81_code 2 = .ok (.putfield 148, 3) := by decide +kernel
theorem d_M_row_5 : decode prog_14_method_81_code 5 = .ok (.iload_n 1, 1) := by decide +kernel
theorem d_M_row_6 : decode prog_14_method_81_code 6 = .ok (.iconst 0, 1) := by decide +kernel
theorem d_M_row_7 : decode prog_14_method_81_code 7 = .ok (.aload_n 0, 1) := by decide +kernel
theorem d_M_row_8 : decode prog_14_method_81_code 8 = .ok (.getfield 170, 3) := by decide +kernel
theorem d_M_row_11 : decode prog_14_method_81_code 11 = .ok (.iconst 1, 1) := by decide +kernel
theorem d_M_row_12 : decode prog_14_method_81_code 12 = .ok (.isub, 1) := by decide +kernel
theorem d_M_row_13 : decode prog_14_method_81_code 13 = .ok (.invokestatic 154, 3) := by decide +kernel
theorem d_M_row_16 : decode prog_14_method_81_code 16 = .ok (.ifCond .eq 12, 3) := by decide +kernel
theorem d_M_row_19 : decode prog_14_method_81_code 19 = .ok (.aload_n 0, 1) := by decide +kernel
theorem d_M_row_20 : decode prog_14_method_81_code 20 = .ok (.getfield 90, 3) := by decide +kernel
theorem d_M_row_23 : decode prog_14_method_81_code 23 = .ok (.iload_n 1, 1) := by decide +kernel
theorem d_M_row_24 : decode prog_14_method_81_code 24 = .ok (.iaload, 1) := by decide +kernel
theorem d_M_row_25 : decode prog_14_method_81_code 25 = .ok (.goto 7, 3) := by decide +kernel
theorem d_M_row_28 : decode prog_14_method_81_code 28 = .ok (.aload_n 0, 1) := by decide +kernel
theorem d_M_row_29 : decode prog_14_method_81_code 29 = .ok (.invokevirtual 402, 3) := by decide +kernel
theorem d_M_row_32 : decode prog_14_method_81_code 32 = .ok (.ireturn, 1) := by decide +kernel
