theorem d_M_breakingPair_34 : decode prog_14_method_54_code 34 = .ok (.iconst (-1), 1) := by decide +kernel
theorem d_M_breakingPair_35 : decode prog_14_method_54_code 35 = .ok (.ixor, 1) := by decide +kernel
theorem d_M_breakingPair_36 : decode prog_14_method_54_code 36 = .ok (.iand, 1) := by decide +kernel
theorem d_M_breakingPair_37 : decode prog_14_method_54_code 37 = .ok (.istore_n 3, 1) := by decide +kernel
theorem d_M_breakingPair_38 : decode prog_14_method_54_code 38 = .ok (.iinc 4 1, 3) := by decide +kernel
theorem d_M_breakingPair_41 : decode prog_14_method_54_code 41 = .ok (.goto (-36), 3) := by decide +kernel
theorem d_M_breakingPair_44 : decode prog_14_method_54_code 44 = .ok (.aload_n 0, 1) := by decide +kernel
theorem d_M_breakingPair_45 : decode prog_14_method_54_code 45 = .ok (.iload_n 1, 1) := by decide +kernel
theorem d_M_breakingPair_46 : decode prog_14_method_54_code 46 = .ok (.iload_n 2, 1) := by decide +kernel
theorem d_M_breakingPair_47 : decode prog_14_method_54_code 47 = .ok (.invokevirtual 321, 3) := by decide +kernel
theorem d_M_breakingPair_50 : decode prog_14_method_54_code 50 = .ok (.istore 4, 2) := by decide +kernel
theorem d_M_breakingPair_52 : decode prog_14_method_54_code 52 = .ok (.iconst 0, 1) := by decide +kernel
theorem d_M_breakingPair_53 : decode prog_14_method_54_code 53 = .ok (.istore 5, 2) := by decide +kernel
theorem d_M_breakingPair_55 : decode prog_14_method_54_code 55 = .ok (.iload 5, 2) := by decide +kernel
theorem d_M_breakingPair_57 : decode prog_14_method_54_code 57 = .ok (.iload 4, 2) := by decide +kernel
theorem d_M_breakingPair_59 : decode prog_14_method_54_code 59 = .ok (.if_icmp .ge 150, 3) := by decide +kernel
theorem d_M_breakingPair_62 : decode prog_14_method_54_code 62 = .ok (.aload_n 0, 1) := by decide +kernel
theorem d_M_breakingPair_63 : decode prog_14_method_54_code 63 = .ok (.getfield 40, 3) := by decide +kernel
theorem d_M_breakingPair_66 : decode prog_14_method_54_code 66 = .ok (.bipush 8, 2) := by decide +kernel
theorem d_M_breakingPair_68 : decode prog_14_method_54_code 68 = .ok (.iload_n 2, 1) := by decide +kernel
theorem d_M_breakingPair_69 : decode prog_14_method_54_code 69 = .ok (.imul, 1) := by decide +kernel
theorem d_M_breakingPair_70 : decode prog_14_method_54_code 70 = .ok (.iload 5, 2) := by decide +kernel
theorem d_M_breakingPair_72 : decode prog_14_method_54_code 72 = .ok (.iadd, 1) := by decide +kernel
theorem d_M_breakingPair_73 : decode prog_14_method_54_code 73 = .ok (.iaload, 1) := by decide +kernel
theorem d_M_breakingPair_74 : decode prog_14_method_54_code 74 = .ok (.istore 6, 2) := by decide +kernel
theorem d_M_breakingPair_76 : decode prog_14_method_54_code 76 = .ok (.aload_n 0, 1) := by decide +kernel
theorem d_M_breakingPair_77 : decode prog_14_method_54_code 77 = .ok (.getfield 43, 3) := by decide +kernel
theorem d_M_breakingPair_80 : decode prog_14_method_54_code 80 = .ok (.bipush 8, 2) := by decide +kernel
theorem d_M_breakingPair_82 : decode prog_14_method_54_code 82 = .ok (.iload_n 2, 1) := by decide +kernel
theorem d_M_breakingPair_83 : decode prog_14_method_54_code 83 = .ok (.imul, 1) := by decide +kernel
theorem d_M_breakingPair_84 : decode prog_14_method_54_code 84 = .ok (.iload 5, 2) := by decide +kernel
theorem d_M_breakingPair_86 : decode prog_14_method_54_code 86 = .ok (.iadd, 1) := by decide +kernel
theorem d_M_breakingPair_87 : decode prog_14_method_54_code 87 = .ok (.iaload, 1) := by decide +kernel
theorem d_M_breakingPair_88 : decode prog_14_method_54_code 88 = .ok (.istore 7, 2) := by decide +kernel
theorem d_M_breakingPair_90 : decode prog_14_method_54_code 90 = .ok (.iload 6, 2) := by decide +kernel
theorem d_M_breakingPair_92 : decode prog_14_method_54_code 92 = .ok (.iconst (-1), 1) := by decide +kernel
theorem d_M_breakingPair_93 : decode prog_14_method_54_code 93 = .ok (.if_icmp .ne 7, 3) := by decide +kernel
theorem d_M_breakingPair_96 : decode prog_14_method_54_code 96 = .ok (.iconst 0, 1) := by decide +kernel
theorem d_M_breakingPair_97 : decode prog_14_method_54_code 97 = .ok (.goto 7, 3) := by decide +kernel
theorem d_M_breakingPair_100 : decode prog_14_method_54_code 100 = .ok (.iconst 1, 1) := by decide +kernel
theorem d_M_breakingPair_101 : decode prog_14_method_54_code 101 = .ok (.iload 6, 2) := by decide +kernel
theorem d_M_breakingPair_103 : decode prog_14_method_54_code 103 = .ok (.ishl, 1) := by decide +kernel
theorem d_M_breakingPair_104 : decode prog_14_method_54_code 104 = .ok (.iload 7, 2) := by decide +kernel
theorem d_M_breakingPair_106 : decode prog_14_method_54_code 106 = .ok (.iconst (-1), 1) := by decide +kernel
theorem d_M_breakingPair_107 : decode prog_14_method_54_code 107 = .ok (.if_icmp .ne 7, 3) := by decide +kernel
theorem d_M_breakingPair_110 : decode prog_14_method_54_code 110 = .ok (.iconst 0, 1) := by decide +kernel
theorem d_M_breakingPair_111 : decode prog_14_method_54_code 111 = .ok (.goto 7, 3) := by decide +kernel
theorem d_M_breakingPair_114 : decode prog_14_method_54_code 114 = .ok (.iconst 1, 1) := by decide +kernel
theorem d_M_breakingPair_115 : decode prog_14_method_54_code 115 = .ok (.iload 7, 2) := by decide +kernel
theorem d_M_breakingPair_117 : decode prog_14_method_54_code 117 = .ok (.ishl, 1) := by decide +kernel
theorem d_M_breakingPair_118 : decode prog_14_method_54_code 118 = .ok (.ior, 1) := by decide +kernel
theorem d_M_breakingPair_119 : decode prog_14_method_54_code 119 = .ok (.istore 8, 2) := by decide +kernel
theorem d_M_breakingPair_121 : decode prog_14_method_54_code 121 = .ok (.iconst 1, 1) := by decide +kernel
theorem d_M_breakingPair_122 : decode prog_14_method_54_code 122 = .ok (.istore 9, 2) := by decide +kernel
theorem d_M_breakingPair_124 : decode prog_14_method_54_code 124 = .ok (.iconst 0, 1) := by decide +kernel
theorem d_M_breakingPair_125 : decode prog_14_method_54_code 125 = .ok (.istore 10, 2) := by decide +kernel
theorem d_M_breakingPair_127 : decode prog_14_method_54_code 127 = .ok (.iload 10, 2) := by decide +kernel
theorem d_M_breakingPair_129 : decode prog_14_method_54_code 129 = .ok (.aload_n 0, 1) := by decide +kernel
theorem d_M_breakingPair_130 : decode prog_14_method_54_code 130 = .ok (.getfield 158, 3) := by decide +kernel
theorem d_M_breakingPair_133 : decode prog_14_method_54_code 133 = .ok (.if_icmp .ge 62, 3) := by decide +kernel
theorem d_M_breakingPair_136 : decode prog_14_method_54_code 136 = .ok (.iload 8, 2) := by decide +kernel
theorem d_M_breakingPair_138 : decode prog_14_method_54_code 138 = .ok (.aload_n 0, 1) := by decide +kernel
theorem d_M_breakingPair_139 : decode prog_14_method_54_code 139 = .ok (.iload 10, 2) := by decide +kernel
theorem d_M_breakingPair_141 : decode prog_14_method_54_code 141 = .ok (.invokevirtual 306, 3) := by decide +kernel
theorem d_M_breakingPair_144 : decode prog_14_method_54_code 144 = .ok (.iand, 1) := by decide +kernel
theorem d_M_breakingPair_145 : decode prog_14_method_54_code 145 = .ok (.istore 11, 2) := by decide +kernel
theorem d_M_breakingPair_147 : decode prog_14_method_54_code 147 = .ok (.iload 9, 2) := by decide +kernel
theorem d_M_breakingPair_149 : decode prog_14_method_54_code 149 = .ok (.ifCond .eq 37, 3) := by decide +kernel
theorem d_M_breakingPair_152 : decode prog_14_method_54_code 152 = .ok (.iload 11, 2) := by decide +kernel
theorem d_M_breakingPair_154 : decode prog_14_method_54_code 154 = .ok (.ifCond .eq 28, 3) := by decide +kernel
theorem d_M_breakingPair_157 : decode prog_14_method_54_code 157 = .ok (.aload_n 0, 1) := by decide +kernel
theorem d_M_breakingPair_158 : decode prog_14_method_54_code 158 = .ok (.iload 10, 2) := by decide +kernel
theorem d_M_breakingPair_160 : decode prog_14_method_54_code 160 = .ok (.iload_n 3, 1) := by decide +kernel
theorem d_M_breakingPair_161 : decode prog_14_method_54_code 161 = .ok (.aload_n 0, 1) := by decide +kernel
theorem d_M_breakingPair_162 : decode prog_14_method_54_code 162 = .ok (.iload 10, 2) := by decide +kernel
theorem d_M_breakingPair_164 : decode prog_14_method_54_code 164 = .ok (.invokevirtual 306, 3) := by decide +kernel
theorem d_M_breakingPair_167 : decode prog_14_method_54_code 167 = .ok (.iand, 1) := by decide +kernel
theorem d_M_breakingPair_168 : decode prog_14_method_54_code 168 = .ok (.iload 11, 2) := by decide +kernel
theorem d_M_breakingPair_170 : decode prog_14_method_54_code 170 = .ok (.ior, 1) := by decide +kernel
theorem d_M_breakingPair_171 : decode prog_14_method_54_code 171 = .ok (.invokevirtual 303, 3) := by decide +kernel
theorem d_M_breakingPair_174 : decode prog_14_method_54_code 174 = .ok (.iload 11, 2) := by decide +kernel
theorem d_M_breakingPair_176 : decode prog_14_method_54_code 176 = .ok (.iand, 1) := by decide +kernel
theorem d_M_breakingPair_177 : decode prog_14_method_54_code 177 = .ok (.iload 11, 2) := by decide +kernel
theorem d_M_breakingPair_179 : decode prog_14_method_54_code 179 = .ok (.if_icmp .ne 7, 3) := by decide +kernel
theorem d_M_breakingPair_182 : decode prog_14_method_54_code 182 = .ok (.iconst 1, 1) := by decide +kernel
theorem d_M_breakingPair_183 : decode prog_14_method_54_code 183 = .ok (.goto 4, 3) := by decide +kernel
theorem d_M_breakingPair_186 : decode prog_14_method_54_code 186 = .ok (.iconst 0, 1) := by decide +kernel
theorem d_M_breakingPair_187 : decode prog_14_method_54_code 187 = .ok (.istore 9, 2) := by decide +kernel
theorem d_M_breakingPair_189 : decode prog_14_method_54_code 189 = .ok (.iinc 10 1, 3) := by decide +kernel
theorem d_M_breakingPair_192 : decode prog_14_method_54_code 192 = .ok (.goto (-65), 3) := by decide +kernel
theorem d_M_breakingPair_195 : decode prog_14_method_54_code 195 = .ok (.iload 9, 2) := by decide +kernel
theorem d_M_breakingPair_197 : decode prog_14_method_54_code 197 = .ok (.ifCond .eq 6, 3) := by decide +kernel
theorem d_M_breakingPair_200 : decode prog_14_method_54_code 200 = .ok (.iload 5, 2) := by decide +kernel
theorem d_M_breakingPair_202 : decode prog_14_method_54_code 202 = .ok (.ireturn, 1) := by decide +kernel
theorem d_M_breakingPair_203 : decode prog_14_method_54_code 203 = .ok (.iinc 5 1, 3) := by decide +kernel
theorem d_M_breakingPair_206 : decode prog_14_method_54_code 206 = .ok (.goto (-151), 3) := by decide +kernel
theorem d_M_breakingPair_209 : decode prog_14_method_54_code 209 = .ok (.iconst (-1), 1) := by decide +kernel
theorem d_M_breakingPair_210 : decode prog_14_method_54_code 210 = .ok (.ireturn, 1) := by decide +kernel
theorem d_M_judgeOf_0 : decode prog_14_method_55_code 0 = .ok (.aload_n 0, 1) := by decide +kernel
theorem d_M_judgeOf_1 : decode prog_14_method_55_code 1 = .ok (.iload_n 1, 1) := by decide +kernel
theorem d_M_judgeOf_2 : decode prog_14_method_55_code 2 = .ok (.invokevirtual 265, 3) := by decide +kernel
theorem d_M_judgeOf_5 : decode prog_14_method_55_code 5 = .ok (.invokestatic 268, 3) := by decide +kernel
theorem d_M_judgeOf_8 : decode prog_14_method_55_code 8 = .ok (.iload_n 1, 1) := by decide +kernel
theorem d_M_judgeOf_9 : decode prog_14_method_55_code 9 = .ok (.invokestatic 268, 3) := by decide +kernel
theorem d_M_judgeOf_12 : decode prog_14_method_55_code 12 = .ok (.if_icmp .eq 5, 3) := by decide +kernel
theorem d_M_judgeOf_15 : decode prog_14_method_55_code 15 = .ok (.iconst 1, 1) := by decide +kernel
theorem d_M_judgeOf_16 : decode prog_14_method_55_code 16 = .ok (.ireturn, 1) := by decide +kernel
theorem d_M_judgeOf_17 : decode prog_14_method_55_code 17 = .ok (.aload_n 0, 1) := by decide +kernel
theorem d_M_judgeOf_18 : decode prog_14_method_55_code 18 = .ok (.iload_n 1, 1) := by decide +kernel
theorem d_M_judgeOf_19 : decode prog_14_method_55_code 19 = .ok (.invokevirtual 324, 3) := by decide +kernel
theorem d_M_judgeOf_22 : decode prog_14_method_55_code 22 = .ok (.ifCond .ne 5, 3) := by decide +kernel
theorem d_M_judgeOf_25 : decode prog_14_method_55_code 25 = .ok (.iconst 2, 1) := by decide +kernel
theorem d_M_judgeOf_26 : decode prog_14_method_55_code 26 = .ok (.ireturn, 1) := by decide +kernel
theorem d_M_judgeOf_27 : decode prog_14_method_55_code 27 = .ok (.aload_n 0, 1) := by decide +kernel
theorem d_M_judgeOf_28 : decode prog_14_method_55_code 28 = .ok (.iload_n 1, 1) := by decide +kernel
theorem d_M_judgeOf_29 : decode prog_14_method_55_code 29 = .ok (.invokevirtual 327, 3) := by decide +kernel
theorem d_M_judgeOf_32 : decode prog_14_method_55_code 32 = .ok (.istore_n 2, 1) := by decide +kernel
theorem d_M_judgeOf_33 : decode prog_14_method_55_code 33 = .ok (.iconst 0, 1) := by decide +kernel
theorem d_M_judgeOf_34 : decode prog_14_method_55_code 34 = .ok (.istore_n 3, 1) := by decide +kernel
theorem d_M_judgeOf_35 : decode prog_14_method_55_code 35 = .ok (.iload_n 3, 1) := by decide +kernel
theorem d_M_judgeOf_36 : decode prog_14_method_55_code 36 = .ok (.aload_n 0, 1) := by decide +kernel
theorem d_M_judgeOf_37 : decode prog_14_method_55_code 37 = .ok (.getfield 158, 3) := by decide +kernel
theorem d_M_judgeOf_40 : decode prog_14_method_55_code 40 = .ok (.if_icmp .ge 40, 3) := by decide +kernel
theorem d_M_judgeOf_43 : decode prog_14_method_55_code 43 = .ok (.aload_n 0, 1) := by decide +kernel
theorem d_M_judgeOf_44 : decode prog_14_method_55_code 44 = .ok (.iload_n 1, 1) := by decide +kernel
theorem d_M_judgeOf_45 : decode prog_14_method_55_code 45 = .ok (.iload_n 3, 1) := by decide +kernel
theorem d_M_judgeOf_46 : decode prog_14_method_55_code 46 = .ok (.iload_n 2, 1) := by decide +kernel
theorem d_M_judgeOf_47 : decode prog_14_method_55_code 47 = .ok (.invokevirtual 330, 3) := by decide +kernel
theorem d_M_judgeOf_50 : decode prog_14_method_55_code 50 = .ok (.istore 4, 2) := by decide +kernel
theorem d_M_judgeOf_52 : decode prog_14_method_55_code 52 = .ok (.iload 4, 2) := by decide +kernel
theorem d_M_judgeOf_54 : decode prog_14_method_55_code 54 = .ok (.iconst (-1), 1) := by decide +kernel
theorem d_M_judgeOf_55 : decode prog_14_method_55_code 55 = .ok (.if_icmp .ne 6, 3) := by decide +kernel
theorem d_M_judgeOf_58 : decode prog_14_method_55_code 58 = .ok (.goto 16, 3) := by decide +kernel
theorem d_M_judgeOf_61 : decode prog_14_method_55_code 61 = .ok (.aload_n 0, 1) := by decide +kernel
theorem d_M_judgeOf_62 : decode prog_14_method_55_code 62 = .ok (.iload_n 3, 1) := by decide +kernel
theorem d_M_judgeOf_63 : decode prog_14_method_55_code 63 = .ok (.putfield 334, 3) := by decide +kernel
theorem d_M_judgeOf_66 : decode prog_14_method_55_code 66 = .ok (.aload_n 0, 1) := by decide +kernel
theorem d_M_judgeOf_67 : decode prog_14_method_55_code 67 = .ok (.iload 4, 2) := by decide +kernel
theorem d_M_judgeOf_69 : decode prog_14_method_55_code 69 = .ok (.putfield 337, 3) := by decide +kernel
theorem d_M_judgeOf_72 : decode prog_14_method_55_code 72 = .ok (.iconst 3, 1) := by decide +kernel
theorem d_M_judgeOf_73 : decode prog_14_method_55_code 73 = .ok (.ireturn, 1) := by decide +kernel
theorem d_M_judgeOf_74 : decode prog_14_method_55_code 74 = .ok (.iinc 3 1, 3) := by decide +kernel
theorem d_M_judgeOf_77 : decode prog_14_method_55_code 77 = .ok (.goto (-42), 3) := by decide +kernel
theorem d_M_judgeOf_80 : decode prog_14_method_55_code 80 = .ok (.iconst 0, 1) := by decide +kernel
theorem d_M_judgeOf_81 : decode prog_14_method_55_code 81 = .ok (.istore_n 3, 1) := by decide +kernel
theorem d_M_judgeOf_82 : decode prog_14_method_55_code 82 = .ok (.iload_n 3, 1) := by decide +kernel
theorem d_M_judgeOf_83 : decode prog_14_method_55_code 83 = .ok (.aload_n 0, 1) := by decide +kernel
theorem d_M_judgeOf_84 : decode prog_14_method_55_code 84 = .ok (.getfield 190, 3) := by decide +kernel
theorem d_M_judgeOf_87 : decode prog_14_method_55_code 87 = .ok (.if_icmp .ge 39, 3) := by decide +kernel
theorem d_M_judgeOf_90 : decode prog_14_method_55_code 90 = .ok (.aload_n 0, 1) := by decide +kernel
theorem d_M_judgeOf_91 : decode prog_14_method_55_code 91 = .ok (.iload_n 1, 1) := by decide +kernel
theorem d_M_judgeOf_92 : decode prog_14_method_55_code 92 = .ok (.iload_n 3, 1) := by decide +kernel
theorem d_M_judgeOf_93 : decode prog_14_method_55_code 93 = .ok (.invokevirtual 340, 3) := by decide +kernel
theorem d_M_judgeOf_96 : decode prog_14_method_55_code 96 = .ok (.istore 4, 2) := by decide +kernel
theorem d_M_judgeOf_98 : decode prog_14_method_55_code 98 = .ok (.iload 4, 2) := by decide +kernel
theorem d_M_judgeOf_100 : decode prog_14_method_55_code 100 = .ok (.iconst (-1), 1) := by decide +kernel
theorem d_M_judgeOf_101 : decode prog_14_method_55_code 101 = .ok (.if_icmp .ne 6, 3) := by decide +kernel
theorem d_M_judgeOf_104 : decode prog_14_method_55_code 104 = .ok (.goto 16, 3) := by decide +kernel
theorem d_M_judgeOf_107 : decode prog_14_method_55_code 107 = .ok (.aload_n 0, 1) := by decide +kernel
theorem d_M_judgeOf_108 : decode prog_14_method_55_code 108 = .ok (.iload_n 3, 1) := by decide +kernel
theorem d_M_judgeOf_109 : decode prog_14_method_55_code 109 = .ok (.putfield 334, 3) := by decide +kernel
theorem d_M_judgeOf_112 : decode prog_14_method_55_code 112 = .ok (.aload_n 0, 1) := by decide +kernel
theorem d_M_judgeOf_113 : decode prog_14_method_55_code 113 = .ok (.iload 4, 2) := by decide +kernel
theorem d_M_judgeOf_115 : decode prog_14_method_55_code 115 = .ok (.putfield 337, 3) := by decide +kernel
theorem d_M_judgeOf_118 : decode prog_14_method_55_code 118 = .ok (.iconst 4, 1) := by decide +kernel
theorem d_M_judgeOf_119 : decode prog_14_method_55_code 119 = .ok (.ireturn, 1) := by decide +kernel
theorem d_M_judgeOf_120 : decode prog_14_method_55_code 120 = .ok (.iinc 3 1, 3) := by decide +kernel
theorem d_M_judgeOf_123 : decode prog_14_method_55_code 123 = .ok (.goto (-41), 3) := by decide +kernel
theorem d_M_judgeOf_126 : decode prog_14_method_55_code 126 = .ok (.iconst 0, 1) := by decide +kernel
theorem d_M_judgeOf_127 : decode prog_14_method_55_code 127 = .ok (.ireturn, 1) := by decide +kernel
theorem d_M_judge_0 : decode prog_14_method_56_code 0 = .ok (.aload_n 0, 1) := by decide +kernel
theorem d_M_judge_1 : decode prog_14_method_56_code 1 = .ok (.iconst 0, 1) := by decide +kernel
theorem d_M_judge_2 : decode prog_14_method_56_code 2 = .ok (.putfield 148, 3) := by decide +kernel
theorem d_M_judge_5 : decode prog_14_method_56_code 5 = .ok (.aload_n 0, 1) := by decide +kernel
theorem d_M_judge_6 : decode prog_14_method_56_code 6 = .ok (.iload_n 1, 1) := by decide +kernel
theorem d_M_judge_7 : decode prog_14_method_56_code 7 = .ok (.invokevirtual 300, 3) := by decide +kernel
theorem d_M_judge_10 : decode prog_14_method_56_code 10 = .ok (.ifCond .ne 5, 3) := by decide +kernel
theorem d_M_judge_13 : decode prog_14_method_56_code 13 = .ok (.iconst (-1), 1) := by decide +kernel
theorem d_M_judge_14 : decode prog_14_method_56_code 14 = .ok (.ireturn, 1) := by decide +kernel
theorem d_M_judge_15 : decode prog_14_method_56_code 15 = .ok (.aload_n 0, 1) := by decide +kernel
theorem d_M_judge_16 : decode prog_14_method_56_code 16 = .ok (.iload_n 1, 1) := by decide +kernel
theorem d_M_judge_17 : decode prog_14_method_56_code 17 = .ok (.invokevirtual 343, 3) := by decide +kernel
theorem d_M_judge_20 : decode prog_14_method_56_code 20 = .ok (.istore_n 2, 1) := by decide +kernel
theorem d_M_judge_21 : decode prog_14_method_56_code 21 = .ok (.iload_n 2, 1) := by decide +kernel
theorem d_M_judge_22 : decode prog_14_method_56_code 22 = .ok (.iconst 3, 1) := by decide +kernel
theorem d_M_judge_23 : decode prog_14_method_56_code 23 = .ok (.if_icmp .ge 5, 3) := by decide +kernel
theorem d_M_judge_26 : decode prog_14_method_56_code 26 = .ok (.iload_n 2, 1) := by decide +kernel
theorem d_M_judge_27 : decode prog_14_method_56_code 27 = .ok (.ireturn, 1) := by decide +kernel
theorem d_M_judge_28 : decode prog_14_method_56_code 28 = .ok (.aload_n 0, 1) := by decide +kernel
theorem d_M_judge_29 : decode prog_14_method_56_code 29 = .ok (.iconst 0, 1) := by decide +kernel
theorem d_M_judge_30 : decode prog_14_method_56_code 30 = .ok (.putfield 170, 3) := by decide +kernel
theorem d_M_judge_33 : decode prog_14_method_56_code 33 = .ok (.aload_n 0, 1) := by decide +kernel
theorem d_M_judge_34 : decode prog_14_method_56_code 34 = .ok (.aload_n 0, 1) := by decide +kernel
theorem d_M_judge_35 : decode prog_14_method_56_code 35 = .ok (.getfield 334, 3) := by decide +kernel
theorem d_M_judge_38 : decode prog_14_method_56_code 38 = .ok (.invokevirtual 309, 3) := by decide +kernel
theorem d_M_judge_41 : decode prog_14_method_56_code 41 = .ok (.aload_n 0, 1) := by decide +kernel
theorem d_M_judge_42 : decode prog_14_method_56_code 42 = .ok (.aload_n 0, 1) := by decide +kernel
theorem d_M_judge_43 : decode prog_14_method_56_code 43 = .ok (.getfield 337, 3) := by decide +kernel
theorem d_M_judge_46 : decode prog_14_method_56_code 46 = .ok (.invokevirtual 309, 3) := by decide +kernel
theorem d_M_judge_49 : decode prog_14_method_56_code 49 = .ok (.iload_n 2, 1) := by decide +kernel
theorem d_M_judge_50 : decode prog_14_method_56_code 50 = .ok (.ireturn, 1) := by decide +kernel
theorem d_M_nextOf_0 : decode prog_14_method_57_code 0 = .ok (.iload_n 1, 1) := by decide +kernel
theorem d_M_nextOf_1 : decode prog_14_method_57_code 1 = .ok (.aload_n 0, 1) := by decide +kernel
theorem d_M_nextOf_2 : decode prog_14_method_57_code 2 = .ok (.getfield 130, 3) := by decide +kernel
theorem d_M_nextOf_5 : decode prog_14_method_57_code 5 = .ok (.if_icmp .eq 12, 3) := by decide +kernel
theorem d_M_nextOf_8 : decode prog_14_method_57_code 8 = .ok (.aload_n 0, 1) := by decide +kernel
theorem d_M_nextOf_9 : decode prog_14_method_57_code 9 = .ok (.iload_n 1, 1) := by decide +kernel
theorem d_M_nextOf_10 : decode prog_14_method_57_code 10 = .ok (.invokevirtual 193, 3) := by decide +kernel
theorem d_M_nextOf_13 : decode prog_14_method_57_code 13 = .ok (.iconst (-1), 1) := by decide +kernel
theorem d_M_nextOf_14 : decode prog_14_method_57_code 14 = .ok (.if_icmp .eq 5, 3) := by decide +kernel
theorem d_M_nextOf_17 : decode prog_14_method_57_code 17 = .ok (.iconst (-1), 1) := by decide +kernel
theorem d_M_nextOf_18 : decode prog_14_method_57_code 18 = .ok (.ireturn, 1) := by decide +kernel
theorem d_M_nextOf_19 : decode prog_14_method_57_code 19 = .ok (.iload_n 1, 1) := by decide +kernel
theorem d_M_nextOf_20 : decode prog_14_method_57_code 20 = .ok (.aload_n 0, 1) := by decide +kernel
theorem d_M_nextOf_21 : decode prog_14_method_57_code 21 = .ok (.getfield 123, 3) := by decide +kernel
theorem d_M_nextOf_24 : decode prog_14_method_57_code 24 = .ok (.if_icmp .ne 10, 3) := by decide +kernel
theorem d_M_nextOf_27 : decode prog_14_method_57_code 27 = .ok (.aload_n 0, 1) := by decide +kernel
theorem d_M_nextOf_28 : decode prog_14_method_57_code 28 = .ok (.getfield 346, 3) := by decide +kernel
theorem d_M_nextOf_31 : decode prog_14_method_57_code 31 = .ok (.goto 9, 3) := by decide +kernel
theorem d_M_nextOf_34 : decode prog_14_method_57_code 34 = .ok (.aload_n 0, 1) := by decide +kernel
theorem d_M_nextOf_35 : decode prog_14_method_57_code 35 = .ok (.getfield 31, 3) := by decide +kernel
theorem d_M_nextOf_38 : decode prog_14_method_57_code 38 = .ok (.iload_n 1, 1) := by decide +kernel
theorem d_M_nextOf_39 : decode prog_14_method_57_code 39 = .ok (.iaload, 1) := by decide +kernel
theorem d_M_nextOf_40 : decode prog_14_method_57_code 40 = .ok (.istore_n 2, 1) := by decide +kernel
theorem d_M_nextOf_41 : decode prog_14_method_57_code 41 = .ok (.aload_n 0, 1) := by decide +kernel
theorem d_M_nextOf_42 : decode prog_14_method_57_code 42 = .ok (.getfield 120, 3) := by decide +kernel
theorem d_M_nextOf_45 : decode prog_14_method_57_code 45 = .ok (.iload_n 1, 1) := by decide +kernel
theorem d_M_nextOf_46 : decode prog_14_method_57_code 46 = .ok (.iaload, 1) := by decide +kernel
theorem d_M_nextOf_47 : decode prog_14_method_57_code 47 = .ok (.iload_n 2, 1) := by decide +kernel
theorem d_M_nextOf_48 : decode prog_14_method_57_code 48 = .ok (.if_icmp .ge 64, 3) := by decide +kernel
theorem d_M_nextOf_51 : decode prog_14_method_57_code 51 = .ok (.iload_n 1, 1) := by decide +kernel
theorem d_M_nextOf_52 : decode prog_14_method_57_code 52 = .ok (.aload_n 0, 1) := by decide +kernel
theorem d_M_nextOf_53 : decode prog_14_method_57_code 53 = .ok (.getfield 123, 3) := by decide +kernel
theorem d_M_nextOf_56 : decode prog_14_method_57_code 56 = .ok (.if_icmp .ne 17, 3) := by decide +kernel
theorem d_M_nextOf_59 : decode prog_14_method_57_code 59 = .ok (.aload_n 0, 1) := by decide +kernel
theorem d_M_nextOf_60 : decode prog_14_method_57_code 60 = .ok (.getfield 127, 3) := by decide +kernel
theorem d_M_nextOf_63 : decode prog_14_method_57_code 63 = .ok (.aload_n 0, 1) := by decide +kernel
theorem d_M_nextOf_64 : decode prog_14_method_57_code 64 = .ok (.getfield 120, 3) := by decide +kernel
theorem d_M_nextOf_67 : decode prog_14_method_57_code 67 = .ok (.iload_n 1, 1) := by decide +kernel
theorem d_M_nextOf_68 : decode prog_14_method_57_code 68 = .ok (.iaload, 1) := by decide +kernel
theorem d_M_nextOf_69 : decode prog_14_method_57_code 69 = .ok (.iaload, 1) := by decide +kernel
theorem d_M_nextOf_70 : decode prog_14_method_57_code 70 = .ok (.goto 18, 3) := by decide +kernel
theorem d_M_nextOf_73 : decode prog_14_method_57_code 73 = .ok (.aload_n 0, 1) := by decide +kernel
theorem d_M_nextOf_74 : decode prog_14_method_57_code 74 = .ok (.getfield 28, 3) := by decide +kernel
theorem d_M_nextOf_77 : decode prog_14_method_57_code 77 = .ok (.iconst 5, 1) := by decide +kernel
theorem d_M_nextOf_78 : decode prog_14_method_57_code 78 = .ok (.iload_n 1, 1) := by decide +kernel
theorem d_M_nextOf_79 : decode prog_14_method_57_code 79 = .ok (.imul, 1) := by decide +kernel
theorem d_M_nextOf_80 : decode prog_14_method_57_code 80 = .ok (.aload_n 0, 1) := by decide +kernel
theorem d_M_nextOf_81 : decode prog_14_method_57_code 81 = .ok (.getfield 120, 3) := by decide +kernel
theorem d_M_nextOf_84 : decode prog_14_method_57_code 84 = .ok (.iload_n 1, 1) := by decide +kernel
theorem d_M_nextOf_85 : decode prog_14_method_57_code 85 = .ok (.iaload, 1) := by decide +kernel
theorem d_M_nextOf_86 : decode prog_14_method_57_code 86 = .ok (.iadd, 1) := by decide +kernel
theorem d_M_nextOf_87 : decode prog_14_method_57_code 87 = .ok (.iaload, 1) := by decide +kernel
theorem d_M_nextOf_88 : decode prog_14_method_57_code 88 = .ok (.istore_n 3, 1) := by decide +kernel
theorem d_M_nextOf_89 : decode prog_14_method_57_code 89 = .ok (.iload_n 3, 1) := by decide +kernel
theorem d_M_nextOf_90 : decode prog_14_method_57_code 90 = .ok (.aload_n 0, 1) := by decide +kernel
theorem d_M_nextOf_91 : decode prog_14_method_57_code 91 = .ok (.getfield 133, 3) := by decide +kernel
theorem d_M_nextOf_94 : decode prog_14_method_57_code 94 = .ok (.if_icmp .eq 5, 3) := by decide +kernel
theorem d_M_nextOf_97 : decode prog_14_method_57_code 97 = .ok (.iload_n 3, 1) := by decide +kernel
theorem d_M_nextOf_98 : decode prog_14_method_57_code 98 = .ok (.ireturn, 1) := by decide +kernel
theorem d_M_nextOf_99 : decode prog_14_method_57_code 99 = .ok (.aload_n 0, 1) := by decide +kernel
theorem d_M_nextOf_100 : decode prog_14_method_57_code 100 = .ok (.getfield 120, 3) := by decide +kernel
theorem d_M_nextOf_103 : decode prog_14_method_57_code 103 = .ok (.iload_n 1, 1) := by decide +kernel
theorem d_M_nextOf_104 : decode prog_14_method_57_code 104 = .ok (.dup2, 1) := by decide +kernel
theorem d_M_nextOf_105 : decode prog_14_method_57_code 105 = .ok (.iaload, 1) := by decide +kernel
theorem d_M_nextOf_106 : decode prog_14_method_57_code 106 = .ok (.iconst 1, 1) := by decide +kernel
theorem d_M_nextOf_107 : decode prog_14_method_57_code 107 = .ok (.iadd, 1) := by decide +kernel
theorem d_M_nextOf_108 : decode prog_14_method_57_code 108 = .ok (.iastore, 1) := by decide +kernel
theorem d_M_nextOf_109 : decode prog_14_method_57_code 109 = .ok (.goto (-68), 3) := by decide +kernel
theorem d_M_nextOf_112 : decode prog_14_method_57_code 112 = .ok (.iconst (-1), 1) := by decide +kernel
theorem d_M_nextOf_113 : decode prog_14_method_57_code 113 = .ok (.ireturn, 1) := by decide +kernel
theorem d_M_outcome_0 : decode prog_14_method_58_code 0 = .ok (.iconst 0, 1) := by decide +kernel
theorem d_M_outcome_1 : decode prog_14_method_58_code 1 = .ok (.istore_n 1, 1) := by decide +kernel
theorem d_M_outcome_2 : decode prog_14_method_58_code 2 = .ok (.iconst 0, 1) := by decide +kernel
theorem d_M_outcome_3 : decode prog_14_method_58_code 3 = .ok (.istore_n 2, 1) := by decide +kernel
theorem d_M_outcome_4 : decode prog_14_method_58_code 4 = .ok (.aload_n 0, 1) := by decide +kernel
theorem d_M_outcome_5 : decode prog_14_method_58_code 5 = .ok (.iconst 0, 1) := by decide +kernel
theorem d_M_outcome_6 : decode prog_14_method_58_code 6 = .ok (.putfield 349, 3) := by decide +kernel
theorem d_M_outcome_9 : decode prog_14_method_58_code 9 = .ok (.aload_n 0, 1) := by decide +kernel
theorem d_M_outcome_10 : decode prog_14_method_58_code 10 = .ok (.iconst 0, 1) := by decide +kernel
theorem d_M_outcome_11 : decode prog_14_method_58_code 11 = .ok (.putfield 352, 3) := by decide +kernel
theorem d_M_outcome_14 : decode prog_14_method_58_code 14 = .ok (.iconst 0, 1) := by decide +kernel
theorem d_M_outcome_15 : decode prog_14_method_58_code 15 = .ok (.istore_n 3, 1) := by decide +kernel
theorem d_M_outcome_16 : decode prog_14_method_58_code 16 = .ok (.iload_n 3, 1) := by decide +kernel
theorem d_M_outcome_17 : decode prog_14_method_58_code 17 = .ok (.aload_n 0, 1) := by decide +kernel
theorem d_M_outcome_18 : decode prog_14_method_58_code 18 = .ok (.getfield 151, 3) := by decide +kernel
theorem d_M_outcome_21 : decode prog_14_method_58_code 21 = .ok (.if_icmp .ge 16, 3) := by decide +kernel
theorem d_M_outcome_24 : decode prog_14_method_58_code 24 = .ok (.aload_n 0, 1) := by decide +kernel
theorem d_M_outcome_25 : decode prog_14_method_58_code 25 = .ok (.getfield 120, 3) := by decide +kernel
theorem d_M_outcome_28 : decode prog_14_method_58_code 28 = .ok (.iload_n 3, 1) := by decide +kernel
theorem d_M_outcome_29 : decode prog_14_method_58_code 29 = .ok (.iconst 0, 1) := by decide +kernel
theorem d_M_outcome_30 : decode prog_14_method_58_code 30 = .ok (.iastore, 1) := by decide +kernel
theorem d_M_outcome_31 : decode prog_14_method_58_code 31 = .ok (.iinc 3 1, 3) := by decide +kernel
theorem d_M_outcome_34 : decode prog_14_method_58_code 34 = .ok (.goto (-18), 3) := by decide +kernel
theorem d_M_outcome_37 : decode prog_14_method_58_code 37 = .ok (.iconst 0, 1) := by decide +kernel
theorem d_M_outcome_38 : decode prog_14_method_58_code 38 = .ok (.istore_n 3, 1) := by decide +kernel
theorem d_M_outcome_39 : decode prog_14_method_58_code 39 = .ok (.iconst 0, 1) := by decide +kernel
theorem d_M_outcome_40 : decode prog_14_method_58_code 40 = .ok (.istore 4, 2) := by decide +kernel
theorem d_M_outcome_42 : decode prog_14_method_58_code 42 = .ok (.iload 4, 2) := by decide +kernel
theorem d_M_outcome_44 : decode prog_14_method_58_code 44 = .ok (.aload_n 0, 1) := by decide +kernel
theorem d_M_outcome_45 : decode prog_14_method_58_code 45 = .ok (.getfield 151, 3) := by decide +kernel
theorem d_M_outcome_48 : decode prog_14_method_58_code 48 = .ok (.if_icmp .ge 58, 3) := by decide +kernel
theorem d_M_outcome_51 : decode prog_14_method_58_code 51 = .ok (.aload_n 0, 1) := by decide +kernel
theorem d_M_outcome_52 : decode prog_14_method_58_code 52 = .ok (.iload_n 2, 1) := by decide +kernel
theorem d_M_outcome_53 : decode prog_14_method_58_code 53 = .ok (.iload 4, 2) := by decide +kernel
theorem d_M_outcome_55 : decode prog_14_method_58_code 55 = .ok (.invokevirtual 315, 3) := by decide +kernel
theorem d_M_outcome_58 : decode prog_14_method_58_code 58 = .ok (.iconst (-1), 1) := by decide +kernel
theorem d_M_outcome_59 : decode prog_14_method_58_code 59 = .ok (.if_icmp .eq 6, 3) := by decide +kernel
theorem d_M_outcome_62 : decode prog_14_method_58_code 62 = .ok (.goto 38, 3) := by decide +kernel
theorem d_M_outcome_65 : decode prog_14_method_58_code 65 = .ok (.aload_n 0, 1) := by decide +kernel
theorem d_M_outcome_66 : decode prog_14_method_58_code 66 = .ok (.iload 4, 2) := by decide +kernel
theorem d_M_outcome_68 : decode prog_14_method_58_code 68 = .ok (.invokevirtual 355, 3) := by decide +kernel
theorem d_M_outcome_71 : decode prog_14_method_58_code 71 = .ok (.istore 5, 2) := by decide +kernel
theorem d_M_outcome_73 : decode prog_14_method_58_code 73 = .ok (.iload 5, 2) := by decide +kernel
theorem d_M_outcome_75 : decode prog_14_method_58_code 75 = .ok (.iconst (-1), 1) := by decide +kernel
theorem d_M_outcome_76 : decode prog_14_method_58_code 76 = .ok (.if_icmp .ne 6, 3) := by decide +kernel
theorem d_M_outcome_79 : decode prog_14_method_58_code 79 = .ok (.goto 21, 3) := by decide +kernel
theorem d_M_outcome_82 : decode prog_14_method_58_code 82 = .ok (.iload_n 3, 1) := by decide +kernel
theorem d_M_outcome_83 : decode prog_14_method_58_code 83 = .ok (.iconst 1, 1) := by decide +kernel
theorem d_M_outcome_84 : decode prog_14_method_58_code 84 = .ok (.iload 5, 2) := by decide +kernel
theorem d_M_outcome_86 : decode prog_14_method_58_code 86 = .ok (.ishl, 1) := by decide +kernel
theorem d_M_outcome_87 : decode prog_14_method_58_code 87 = .ok (.ior, 1) := by decide +kernel
theorem d_M_outcome_88 : decode prog_14_method_58_code 88 = .ok (.istore_n 3, 1) := by decide +kernel
theorem d_M_outcome_89 : decode prog_14_method_58_code 89 = .ok (.aload_n 0, 1) := by decide +kernel
theorem d_M_outcome_90 : decode prog_14_method_58_code 90 = .ok (.getfield 120, 3) := by decide +kernel
theorem d_M_outcome_93 : decode prog_14_method_58_code 93 = .ok (.iload 4, 2) := by decide +kernel
theorem d_M_outcome_95 : decode prog_14_method_58_code 95 = .ok (.dup2, 1) := by decide +kernel
theorem d_M_outcome_96 : decode prog_14_method_58_code 96 = .ok (.iaload, 1) := by decide +kernel
theorem d_M_outcome_97 : decode prog_14_method_58_code 97 = .ok (.iconst 1, 1) := by decide +kernel
theorem d_M_outcome_98 : decode prog_14_method_58_code 98 = .ok (.iadd, 1) := by decide +kernel
theorem d_M_outcome_99 : decode prog_14_method_58_code 99 = .ok (.iastore, 1) := by decide +kernel
theorem d_M_outcome_100 : decode prog_14_method_58_code 100 = .ok (.iinc 4 1, 3) := by decide +kernel
theorem d_M_outcome_103 : decode prog_14_method_58_code 103 = .ok (.goto (-61), 3) := by decide +kernel
theorem d_M_outcome_106 : decode prog_14_method_58_code 106 = .ok (.iload_n 3, 1) := by decide +kernel
theorem d_M_outcome_107 : decode prog_14_method_58_code 107 = .ok (.ifCond .ne 6, 3) := by decide +kernel
theorem d_M_outcome_110 : decode prog_14_method_58_code 110 = .ok (.goto 70, 3) := by decide +kernel
theorem d_M_outcome_113 : decode prog_14_method_58_code 113 = .ok (.aload_n 0, 1) := by decide +kernel
theorem d_M_outcome_114 : decode prog_14_method_58_code 114 = .ok (.dup, 1) := by decide +kernel
theorem d_M_outcome_115 : decode prog_14_method_58_code 115 = .ok (.getfield 349, 3) := by decide +kernel
theorem d_M_outcome_118 : decode prog_14_method_58_code 118 = .ok (.iconst 1, 1) := by decide +kernel
theorem d_M_outcome_119 : decode prog_14_method_58_code 119 = .ok (.iadd, 1) := by decide +kernel
theorem d_M_outcome_120 : decode prog_14_method_58_code 120 = .ok (.putfield 349, 3) := by decide +kernel
theorem d_M_outcome_123 : decode prog_14_method_58_code 123 = .ok (.aload_n 0, 1) := by decide +kernel
theorem d_M_outcome_124 : decode prog_14_method_58_code 124 = .ok (.dup, 1) := by decide +kernel
theorem d_M_outcome_125 : decode prog_14_method_58_code 125 = .ok (.getfield 352, 3) := by decide +kernel
theorem d_M_outcome_128 : decode prog_14_method_58_code 128 = .ok (.iload_n 3, 1) := by decide +kernel
theorem d_M_outcome_129 : decode prog_14_method_58_code 129 = .ok (.invokestatic 268, 3) := by decide +kernel
theorem d_M_outcome_132 : decode prog_14_method_58_code 132 = .ok (.iadd, 1) := by decide +kernel
theorem d_M_outcome_133 : decode prog_14_method_58_code 133 = .ok (.putfield 352, 3) := by decide +kernel
theorem d_M_outcome_136 : decode prog_14_method_58_code 136 = .ok (.iload_n 1, 1) := by decide +kernel
theorem d_M_outcome_137 : decode prog_14_method_58_code 137 = .ok (.iload_n 3, 1) := by decide +kernel
theorem d_M_outcome_138 : decode prog_14_method_58_code 138 = .ok (.ior, 1) := by decide +kernel
theorem d_M_outcome_139 : decode prog_14_method_58_code 139 = .ok (.istore_n 1, 1) := by decide +kernel
theorem d_M_outcome_140 : decode prog_14_method_58_code 140 = .ok (.iconst 0, 1) := by decide +kernel
theorem d_M_outcome_141 : decode prog_14_method_58_code 141 = .ok (.istore_n 2, 1) := by decide +kernel
theorem d_M_outcome_142 : decode prog_14_method_58_code 142 = .ok (.iconst 0, 1) := by decide +kernel
theorem d_M_outcome_143 : decode prog_14_method_58_code 143 = .ok (.istore 4, 2) := by decide +kernel
theorem d_M_outcome_145 : decode prog_14_method_58_code 145 = .ok (.iload 4, 2) := by decide +kernel
theorem d_M_outcome_147 : decode prog_14_method_58_code 147 = .ok (.aload_n 0, 1) := by decide +kernel
theorem d_M_outcome_148 : decode prog_14_method_58_code 148 = .ok (.getfield 158, 3) := by decide +kernel
theorem d_M_outcome_151 : decode prog_14_method_58_code 151 = .ok (.if_icmp .ge 26, 3) := by decide +kernel
theorem d_M_outcome_154 : decode prog_14_method_58_code 154 = .ok (.iload_n 2, 1) := by decide +kernel
theorem d_M_outcome_155 : decode prog_14_method_58_code 155 = .ok (.aload_n 0, 1) := by decide +kernel
theorem d_M_outcome_156 : decode prog_14_method_58_code 156 = .ok (.iload 4, 2) := by decide +kernel
theorem d_M_outcome_158 : decode prog_14_method_58_code 158 = .ok (.iload_n 1, 1) := by decide +kernel
theorem d_M_outcome_159 : decode prog_14_method_58_code 159 = .ok (.aload_n 0, 1) := by decide +kernel
theorem d_M_outcome_160 : decode prog_14_method_58_code 160 = .ok (.iload 4, 2) := by decide +kernel
theorem d_M_outcome_162 : decode prog_14_method_58_code 162 = .ok (.invokevirtual 306, 3) := by decide +kernel
theorem d_M_outcome_165 : decode prog_14_method_58_code 165 = .ok (.iand, 1) := by decide +kernel
theorem d_M_outcome_166 : decode prog_14_method_58_code 166 = .ok (.invokevirtual 303, 3) := by decide +kernel
theorem d_M_outcome_169 : decode prog_14_method_58_code 169 = .ok (.ior, 1) := by decide +kernel
theorem d_M_outcome_170 : decode prog_14_method_58_code 170 = .ok (.istore_n 2, 1) := by decide +kernel
theorem d_M_outcome_171 : decode prog_14_method_58_code 171 = .ok (.iinc 4 1, 3) := by decide +kernel
theorem d_M_outcome_174 : decode prog_14_method_58_code 174 = .ok (.goto (-29), 3) := by decide +kernel
theorem d_M_outcome_177 : decode prog_14_method_58_code 177 = .ok (.goto (-140), 3) := by decide +kernel
theorem d_M_outcome_180 : decode prog_14_method_58_code 180 = .ok (.aload_n 0, 1) := by decide +kernel
theorem d_M_outcome_181 : decode prog_14_method_58_code 181 = .ok (.iload_n 2, 1) := by decide +kernel
theorem d_M_outcome_182 : decode prog_14_method_58_code 182 = .ok (.invokevirtual 265, 3) := by decide +kernel
theorem d_M_outcome_185 : decode prog_14_method_58_code 185 = .ok (.invokestatic 268, 3) := by decide +kernel
theorem d_M_outcome_188 : decode prog_14_method_58_code 188 = .ok (.iload_n 2, 1) := by decide +kernel
theorem d_M_outcome_189 : decode prog_14_method_58_code 189 = .ok (.invokestatic 268, 3) := by decide +kernel
theorem d_M_outcome_192 : decode prog_14_method_58_code 192 = .ok (.if_icmp .ne 7, 3) := by decide +kernel
theorem d_M_outcome_195 : decode prog_14_method_58_code 195 = .ok (.iload_n 2, 1) := by decide +kernel
theorem d_M_outcome_196 : decode prog_14_method_58_code 196 = .ok (.goto 5, 3) := by decide +kernel
theorem d_M_outcome_199 : decode prog_14_method_58_code 199 = .ok (.bipush (-3), 2) := by decide +kernel
theorem d_M_outcome_201 : decode prog_14_method_58_code 201 = .ok (.ireturn, 1) := by decide +kernel
theorem d_M_offer_0 : decode prog_14_method_59_code 0 = .ok (.aload_n 0, 1) := by decide +kernel
theorem d_M_offer_1 : decode prog_14_method_59_code 1 = .ok (.iconst 0, 1) := by decide +kernel
theorem d_M_offer_2 : decode prog_14_method_59_code 2 = .ok (.putfield 148, 3) := by decide +kernel
theorem d_M_offer_5 : decode prog_14_method_59_code 5 = .ok (.aload_n 0, 1) := by decide +kernel
theorem d_M_offer_6 : decode prog_14_method_59_code 6 = .ok (.invokevirtual 358, 3) := by decide +kernel
theorem d_M_offer_9 : decode prog_14_method_59_code 9 = .ok (.istore_n 1, 1) := by decide +kernel
theorem d_M_offer_10 : decode prog_14_method_59_code 10 = .ok (.iload_n 1, 1) := by decide +kernel
theorem d_M_offer_11 : decode prog_14_method_59_code 11 = .ok (.ifCond .ge 6, 3) := by decide +kernel
theorem d_M_offer_14 : decode prog_14_method_59_code 14 = .ok (.bipush (-3), 2) := by decide +kernel
theorem d_M_offer_16 : decode prog_14_method_59_code 16 = .ok (.ireturn, 1) := by decide +kernel
theorem d_M_offer_17 : decode prog_14_method_59_code 17 = .ok (.aload_n 0, 1) := by decide +kernel
theorem d_M_offer_18 : decode prog_14_method_59_code 18 = .ok (.iconst 0, 1) := by decide +kernel
theorem d_M_offer_19 : decode prog_14_method_59_code 19 = .ok (.putfield 170, 3) := by decide +kernel
theorem d_M_offer_22 : decode prog_14_method_59_code 22 = .ok (.aload_n 0, 1) := by decide +kernel
theorem d_M_offer_23 : decode prog_14_method_59_code 23 = .ok (.aload_n 0, 1) := by decide +kernel
theorem d_M_offer_24 : decode prog_14_method_59_code 24 = .ok (.getfield 349, 3) := by decide +kernel
theorem d_M_offer_27 : decode prog_14_method_59_code 27 = .ok (.invokevirtual 309, 3) := by decide +kernel
theorem d_M_offer_30 : decode prog_14_method_59_code 30 = .ok (.aload_n 0, 1) := by decide +kernel
theorem d_M_offer_31 : decode prog_14_method_59_code 31 = .ok (.aload_n 0, 1) := by decide +kernel
theorem d_M_offer_32 : decode prog_14_method_59_code 32 = .ok (.getfield 352, 3) := by decide +kernel
theorem d_M_offer_35 : decode prog_14_method_59_code 35 = .ok (.invokevirtual 309, 3) := by decide +kernel
theorem d_M_offer_38 : decode prog_14_method_59_code 38 = .ok (.iload_n 1, 1) := by decide +kernel
theorem d_M_offer_39 : decode prog_14_method_59_code 39 = .ok (.ireturn, 1) := by decide +kernel
theorem d_M_goThrough_0 : decode prog_14_method_60_code 0 = .ok (.iload_n 3, 1) := by decide +kernel
theorem d_M_goThrough_1 : decode prog_14_method_60_code 1 = .ok (.ifCond .eq 11, 3) := by decide +kernel
theorem d_M_goThrough_4 : decode prog_14_method_60_code 4 = .ok (.aload_n 0, 1) := by decide +kernel
theorem d_M_goThrough_5 : decode prog_14_method_60_code 5 = .ok (.getfield 361, 3) := by decide +kernel
theorem d_M_goThrough_8 : decode prog_14_method_60_code 8 = .ok (.ifCond .eq 4, 3) := by decide +kernel
theorem d_M_goThrough_11 : decode prog_14_method_60_code 11 = .ok (.return_, 1) := by decide +kernel
theorem d_M_goThrough_12 : decode prog_14_method_60_code 12 = .ok (.iload_n 1, 1) := by decide +kernel
theorem d_M_goThrough_13 : decode prog_14_method_60_code 13 = .ok (.aload_n 0, 1) := by decide +kernel
theorem d_M_goThrough_14 : decode prog_14_method_60_code 14 = .ok (.getfield 151, 3) := by decide +kernel
theorem d_M_goThrough_17 : decode prog_14_method_60_code 17 = .ok (.if_icmp .ne 87, 3) := by decide +kernel
theorem d_M_goThrough_20 : decode prog_14_method_60_code 20 = .ok (.aload_n 0, 1) := by decide +kernel
theorem d_M_goThrough_21 : decode prog_14_method_60_code 21 = .ok (.iload_n 2, 1) := by decide +kernel
theorem d_M_goThrough_22 : decode prog_14_method_60_code 22 = .ok (.invokevirtual 343, 3) := by decide +kernel
theorem d_M_goThrough_25 : decode prog_14_method_60_code 25 = .ok (.ifCond .eq 4, 3) := by decide +kernel
theorem d_M_goThrough_28 : decode prog_14_method_60_code 28 = .ok (.return_, 1) := by decide +kernel
theorem d_M_goThrough_29 : decode prog_14_method_60_code 29 = .ok (.aload_n 0, 1) := by decide +kernel
theorem d_M_goThrough_30 : decode prog_14_method_60_code 30 = .ok (.iconst 1, 1) := by decide +kernel
theorem d_M_goThrough_31 : decode prog_14_method_60_code 31 = .ok (.putfield 361, 3) := by decide +kernel
theorem d_M_goThrough_34 : decode prog_14_method_60_code 34 = .ok (.iload_n 3, 1) := by decide +kernel
theorem d_M_goThrough_35 : decode prog_14_method_60_code 35 = .ok (.ifCond .eq 4, 3) := by decide +kernel
theorem d_M_goThrough_38 : decode prog_14_method_60_code 38 = .ok (.return_, 1) := by decide +kernel
theorem d_M_goThrough_39 : decode prog_14_method_60_code 39 = .ok (.aload_n 0, 1) := by decide +kernel
theorem d_M_goThrough_40 : decode prog_14_method_60_code 40 = .ok (.getfield 364, 3) := by decide +kernel
theorem d_M_goThrough_43 : decode prog_14_method_60_code 43 = .ok (.istore 4, 2) := by decide +kernel
theorem d_M_goThrough_45 : decode prog_14_method_60_code 45 = .ok (.aload_n 0, 1) := by decide +kernel
theorem d_M_goThrough_46 : decode prog_14_method_60_code 46 = .ok (.dup, 1) := by decide +kernel
theorem d_M_goThrough_47 : decode prog_14_method_60_code 47 = .ok (.getfield 364, 3) := by decide +kernel
theorem d_M_goThrough_50 : decode prog_14_method_60_code 50 = .ok (.iconst 1, 1) := by decide +kernel
theorem d_M_goThrough_51 : decode prog_14_method_60_code 51 = .ok (.iadd, 1) := by decide +kernel
theorem d_M_goThrough_52 : decode prog_14_method_60_code 52 = .ok (.putfield 364, 3) := by decide +kernel
theorem d_M_goThrough_55 : decode prog_14_method_60_code 55 = .ok (.iload 4, 2) := by decide +kernel
theorem d_M_goThrough_57 : decode prog_14_method_60_code 57 = .ok (.ifCond .le 38, 3) := by decide +kernel
theorem d_M_goThrough_60 : decode prog_14_method_60_code 60 = .ok (.aload_n 0, 1) := by decide +kernel
theorem d_M_goThrough_61 : decode prog_14_method_60_code 61 = .ok (.getfield 136, 3) := by decide +kernel
theorem d_M_goThrough_64 : decode prog_14_method_60_code 64 = .ok (.iload 4, 2) := by decide +kernel
theorem d_M_goThrough_66 : decode prog_14_method_60_code 66 = .ok (.iconst 1, 1) := by decide +kernel
theorem d_M_goThrough_67 : decode prog_14_method_60_code 67 = .ok (.isub, 1) := by decide +kernel
theorem d_M_goThrough_68 : decode prog_14_method_60_code 68 = .ok (.iaload, 1) := by decide +kernel
theorem d_M_goThrough_69 : decode prog_14_method_60_code 69 = .ok (.iload_n 2, 1) := by decide +kernel
theorem d_M_goThrough_70 : decode prog_14_method_60_code 70 = .ok (.if_icmp .le 25, 3) := by decide +kernel
theorem d_M_goThrough_73 : decode prog_14_method_60_code 73 = .ok (.aload_n 0, 1) := by decide +kernel
theorem d_M_goThrough_74 : decode prog_14_method_60_code 74 = .ok (.getfield 136, 3) := by decide +kernel
theorem d_M_goThrough_77 : decode prog_14_method_60_code 77 = .ok (.iload 4, 2) := by decide +kernel
theorem d_M_goThrough_79 : decode prog_14_method_60_code 79 = .ok (.aload_n 0, 1) := by decide +kernel
theorem d_M_goThrough_80 : decode prog_14_method_60_code 80 = .ok (.getfield 136, 3) := by decide +kernel
theorem d_M_goThrough_83 : decode prog_14_method_60_code 83 = .ok (.iload 4, 2) := by decide +kernel
theorem d_M_goThrough_85 : decode prog_14_method_60_code 85 = .ok (.iconst 1, 1) := by decide +kernel
theorem d_M_goThrough_86 : decode prog_14_method_60_code 86 = .ok (.isub, 1) := by decide +kernel
theorem d_M_goThrough_87 : decode prog_14_method_60_code 87 = .ok (.iaload, 1) := by decide +kernel
theorem d_M_goThrough_88 : decode prog_14_method_60_code 88 = .ok (.iastore, 1) := by decide +kernel
theorem d_M_goThrough_89 : decode prog_14_method_60_code 89 = .ok (.iinc 4 (-1), 3) := by decide +kernel
theorem d_M_goThrough_92 : decode prog_14_method_60_code 92 = .ok (.goto (-37), 3) := by decide +kernel
theorem d_M_goThrough_95 : decode prog_14_method_60_code 95 = .ok (.aload_n 0, 1) := by decide +kernel
theorem d_M_goThrough_96 : decode prog_14_method_60_code 96 = .ok (.getfield 136, 3) := by decide +kernel
theorem d_M_goThrough_99 : decode prog_14_method_60_code 99 = .ok (.iload 4, 2) := by decide +kernel
theorem d_M_goThrough_101 : decode prog_14_method_60_code 101 = .ok (.iload_n 2, 1) := by decide +kernel
theorem d_M_goThrough_102 : decode prog_14_method_60_code 102 = .ok (.iastore, 1) := by decide +kernel
theorem d_M_goThrough_103 : decode prog_14_method_60_code 103 = .ok (.return_, 1) := by decide +kernel
theorem d_M_goThrough_104 : decode prog_14_method_60_code 104 = .ok (.aload_n 0, 1) := by decide +kernel
theorem d_M_goThrough_105 : decode prog_14_method_60_code 105 = .ok (.iload_n 1, 1) := by decide +kernel
theorem d_M_goThrough_106 : decode prog_14_method_60_code 106 = .ok (.iconst 1, 1) := by decide +kernel
theorem d_M_goThrough_107 : decode prog_14_method_60_code 107 = .ok (.iadd, 1) := by decide +kernel
theorem d_M_goThrough_108 : decode prog_14_method_60_code 108 = .ok (.iload_n 2, 1) := by decide +kernel
theorem d_M_goThrough_109 : decode prog_14_method_60_code 109 = .ok (.iload_n 3, 1) := by decide +kernel
theorem d_M_goThrough_110 : decode prog_14_method_60_code 110 = .ok (.invokevirtual 367, 3) := by decide +kernel
theorem d_M_goThrough_113 : decode prog_14_method_60_code 113 = .ok (.iconst 0, 1) := by decide +kernel
theorem d_M_goThrough_114 : decode prog_14_method_60_code 114 = .ok (.istore 4, 2) := by decide +kernel
theorem d_M_goThrough_116 : decode prog_14_method_60_code 116 = .ok (.iload 4, 2) := by decide +kernel
theorem d_M_goThrough_118 : decode prog_14_method_60_code 118 = .ok (.aload_n 0, 1) := by decide +kernel
theorem d_M_goThrough_119 : decode prog_14_method_60_code 119 = .ok (.getfield 161, 3) := by decide +kernel
theorem d_M_goThrough_122 : decode prog_14_method_60_code 122 = .ok (.if_icmp .ge 53, 3) := by decide +kernel
theorem d_M_goThrough_125 : decode prog_14_method_60_code 125 = .ok (.aload_n 0, 1) := by decide +kernel
theorem d_M_goThrough_126 : decode prog_14_method_60_code 126 = .ok (.getfield 13, 3) := by decide +kernel
theorem d_M_goThrough_129 : decode prog_14_method_60_code 129 = .ok (.iload 4, 2) := by decide +kernel
theorem d_M_goThrough_131 : decode prog_14_method_60_code 131 = .ok (.iaload, 1) := by decide +kernel
theorem d_M_goThrough_132 : decode prog_14_method_60_code 132 = .ok (.iload_n 1, 1) := by decide +kernel
theorem d_M_goThrough_133 : decode prog_14_method_60_code 133 = .ok (.if_icmp .ne 36, 3) := by decide +kernel
theorem d_M_goThrough_136 : decode prog_14_method_60_code 136 = .ok (.aload_n 0, 1) := by decide +kernel
theorem d_M_goThrough_137 : decode prog_14_method_60_code 137 = .ok (.iload 4, 2) := by decide +kernel
theorem d_M_goThrough_139 : decode prog_14_method_60_code 139 = .ok (.invokevirtual 187, 3) := by decide +kernel
theorem d_M_goThrough_142 : decode prog_14_method_60_code 142 = .ok (.iconst (-1), 1) := by decide +kernel
theorem d_M_goThrough_143 : decode prog_14_method_60_code 143 = .ok (.if_icmp .ne 12, 3) := by decide +kernel
theorem d_M_goThrough_146 : decode prog_14_method_60_code 146 = .ok (.aload_n 0, 1) := by decide +kernel
theorem d_M_goThrough_147 : decode prog_14_method_60_code 147 = .ok (.iload_n 1, 1) := by decide +kernel
theorem d_M_goThrough_148 : decode prog_14_method_60_code 148 = .ok (.invokevirtual 193, 3) := by decide +kernel
theorem d_M_goThrough_151 : decode prog_14_method_60_code 151 = .ok (.iconst (-1), 1) := by decide +kernel
theorem d_M_goThrough_152 : decode prog_14_method_60_code 152 = .ok (.if_icmp .eq 17, 3) := by decide +kernel
theorem d_M_goThrough_155 : decode prog_14_method_60_code 155 = .ok (.aload_n 0, 1) := by decide +kernel
theorem d_M_goThrough_156 : decode prog_14_method_60_code 156 = .ok (.iload_n 1, 1) := by decide +kernel
theorem d_M_goThrough_157 : decode prog_14_method_60_code 157 = .ok (.iconst 1, 1) := by decide +kernel
theorem d_M_goThrough_158 : decode prog_14_method_60_code 158 = .ok (.iadd, 1) := by decide +kernel
theorem d_M_goThrough_159 : decode prog_14_method_60_code 159 = .ok (.iload_n 2, 1) := by decide +kernel
theorem d_M_goThrough_160 : decode prog_14_method_60_code 160 = .ok (.iconst 1, 1) := by decide +kernel
theorem d_M_goThrough_161 : decode prog_14_method_60_code 161 = .ok (.iload 4, 2) := by decide +kernel
theorem d_M_goThrough_163 : decode prog_14_method_60_code 163 = .ok (.ishl, 1) := by decide +kernel
theorem d_M_goThrough_164 : decode prog_14_method_60_code 164 = .ok (.ior, 1) := by decide +kernel
theorem d_M_goThrough_165 : decode prog_14_method_60_code 165 = .ok (.iload_n 3, 1) := by decide +kernel
theorem d_M_goThrough_166 : decode prog_14_method_60_code 166 = .ok (.invokevirtual 367, 3) := by decide +kernel
theorem d_M_goThrough_169 : decode prog_14_method_60_code 169 = .ok (.iinc 4 1, 3) := by decide +kernel
theorem d_M_goThrough_172 : decode prog_14_method_60_code 172 = .ok (.goto (-56), 3) := by decide +kernel
theorem d_M_goThrough_175 : decode prog_14_method_60_code 175 = .ok (.return_, 1) := by decide +kernel
theorem d_M_findAll_0 : decode prog_14_method_61_code 0 = .ok (.aload_n 0, 1) := by decide +kernel
theorem d_M_findAll_1 : decode prog_14_method_61_code 1 = .ok (.iconst 0, 1) := by decide +kernel
theorem d_M_findAll_2 : decode prog_14_method_61_code 2 = .ok (.putfield 364, 3) := by decide +kernel
theorem d_M_findAll_5 : decode prog_14_method_61_code 5 = .ok (.aload_n 0, 1) := by decide +kernel
theorem d_M_findAll_6 : decode prog_14_method_61_code 6 = .ok (.iconst 0, 1) := by decide +kernel
theorem d_M_findAll_7 : decode prog_14_method_61_code 7 = .ok (.putfield 361, 3) := by decide +kernel
theorem d_M_findAll_10 : decode prog_14_method_61_code 10 = .ok (.aload_n 0, 1) := by decide +kernel
theorem d_M_findAll_11 : decode prog_14_method_61_code 11 = .ok (.iconst 0, 1) := by decide +kernel
theorem d_M_findAll_12 : decode prog_14_method_61_code 12 = .ok (.iconst 0, 1) := by decide +kernel
theorem d_M_findAll_13 : decode prog_14_method_61_code 13 = .ok (.iconst 0, 1) := by decide +kernel
theorem d_M_findAll_14 : decode prog_14_method_61_code 14 = .ok (.invokevirtual 367, 3) := by decide +kernel
theorem d_M_findAll_17 : decode prog_14_method_61_code 17 = .ok (.return_, 1) := by decide +kernel
theorem d_M_all_0 : decode prog_14_method_62_code 0 = .ok (.aload_n 0, 1) := by decide +kernel
theorem d_M_all_1 : decode prog_14_method_62_code 1 = .ok (.iconst 0, 1) := by decide +kernel
theorem d_M_all_2 : decode prog_14_method_62_code 2 = .ok (.putfield 148, 3) := by decide +kernel
theorem d_M_all_5 : decode prog_14_method_62_code 5 = .ok (.aload_n 0, 1) := by decide +kernel
theorem d_M_all_6 : decode prog_14_method_62_code 6 = .ok (.invokevirtual 371, 3) := by decide +kernel
theorem d_M_all_9 : decode prog_14_method_62_code 9 = .ok (.aload_n 0, 1) := by decide +kernel
theorem d_M_all_10 : decode prog_14_method_62_code 10 = .ok (.iconst 0, 1) := by decide +kernel
theorem d_M_all_11 : decode prog_14_method_62_code 11 = .ok (.putfield 170, 3) := by decide +kernel
theorem d_M_all_14 : decode prog_14_method_62_code 14 = .ok (.iconst 0, 1) := by decide +kernel
theorem d_M_all_15 : decode prog_14_method_62_code 15 = .ok (.istore_n 1, 1) := by decide +kernel
theorem d_M_all_16 : decode prog_14_method_62_code 16 = .ok (.iload_n 1, 1) := by decide +kernel
theorem d_M_all_17 : decode prog_14_method_62_code 17 = .ok (.aload_n 0, 1) := by decide +kernel
theorem d_M_all_18 : decode prog_14_method_62_code 18 = .ok (.getfield 364, 3) := by decide +kernel
theorem d_M_all_21 : decode prog_14_method_62_code 21 = .ok (.if_icmp .ge 25, 3) := by decide +kernel
theorem d_M_all_24 : decode prog_14_method_62_code 24 = .ok (.iload_n 1, 1) := by decide +kernel
theorem d_M_all_25 : decode prog_14_method_62_code 25 = .ok (.bipush 40, 2) := by decide +kernel
theorem d_M_all_27 : decode prog_14_method_62_code 27 = .ok (.if_icmp .ge 19, 3) := by decide +kernel
theorem d_M_all_30 : decode prog_14_method_62_code 30 = .ok (.aload_n 0, 1) := by decide +kernel
theorem d_M_all_31 : decode prog_14_method_62_code 31 = .ok (.aload_n 0, 1) := by decide +kernel
theorem d_M_all_32 : decode prog_14_method_62_code 32 = .ok (.getfield 136, 3) := by decide +kernel
theorem d_M_all_35 : decode prog_14_method_62_code 35 = .ok (.iload_n 1, 1) := by decide +kernel
theorem d_M_all_36 : decode prog_14_method_62_code 36 = .ok (.iaload, 1) := by decide +kernel
theorem d_M_all_37 : decode prog_14_method_62_code 37 = .ok (.invokevirtual 309, 3) := by decide +kernel
theorem d_M_all_40 : decode prog_14_method_62_code 40 = .ok (.iinc 1 1, 3) := by decide +kernel
theorem d_M_all_43 : decode prog_14_method_62_code 43 = .ok (.goto (-27), 3) := by decide +kernel
theorem d_M_all_46 : decode prog_14_method_62_code 46 = .ok (.aload_n 0, 1) := by decide +kernel
theorem d_M_all_47 : decode prog_14_method_62_code 47 = .ok (.getfield 364, 3) := by decide +kernel
theorem d_M_all_50 : decode prog_14_method_62_code 50 = .ok (.ireturn, 1) := by decide +kernel
theorem d_M_isBetter_0 : decode prog_14_method_63_code 0 = .ok (.iconst 0, 1) := by decide +kernel
theorem d_M_isBetter_1 : decode prog_14_method_63_code 1 = .ok (.istore_n 3, 1) := by decide +kernel
theorem d_M_isBetter_2 : decode prog_14_method_63_code 2 = .ok (.iconst 0, 1) := by decide +kernel
theorem d_M_isBetter_3 : decode prog_14_method_63_code 3 = .ok (.istore 4, 2) := by decide +kernel
theorem d_M_isBetter_5 : decode prog_14_method_63_code 5 = .ok (.iload 4, 2) := by decide +kernel
theorem d_M_isBetter_7 : decode prog_14_method_63_code 7 = .ok (.aload_n 0, 1) := by decide +kernel
theorem d_M_isBetter_8 : decode prog_14_method_63_code 8 = .ok (.getfield 151, 3) := by decide +kernel
theorem d_M_isBetter_11 : decode prog_14_method_63_code 11 = .ok (.if_icmp .ge 68, 3) := by decide +kernel
theorem d_M_isBetter_14 : decode prog_14_method_63_code 14 = .ok (.aload_n 0, 1) := by decide +kernel
theorem d_M_isBetter_15 : decode prog_14_method_63_code 15 = .ok (.iload 4, 2) := by decide +kernel
theorem d_M_isBetter_17 : decode prog_14_method_63_code 17 = .ok (.invokevirtual 193, 3) := by decide +kernel
theorem d_M_isBetter_20 : decode prog_14_method_63_code 20 = .ok (.iconst (-1), 1) := by decide +kernel
theorem d_M_isBetter_21 : decode prog_14_method_63_code 21 = .ok (.if_icmp .eq 6, 3) := by decide +kernel
theorem d_M_isBetter_24 : decode prog_14_method_63_code 24 = .ok (.goto 49, 3) := by decide +kernel
theorem d_M_isBetter_27 : decode prog_14_method_63_code 27 = .ok (.aload_n 0, 1) := by decide +kernel
theorem d_M_isBetter_28 : decode prog_14_method_63_code 28 = .ok (.iload_n 1, 1) := by decide +kernel
theorem d_M_isBetter_29 : decode prog_14_method_63_code 29 = .ok (.iload 4, 2) := by decide +kernel
theorem d_M_isBetter_31 : decode prog_14_method_63_code 31 = .ok (.invokevirtual 318, 3) := by decide +kernel
theorem d_M_isBetter_34 : decode prog_14_method_63_code 34 = .ok (.aload_n 0, 1) := by decide +kernel
theorem d_M_isBetter_35 : decode prog_14_method_63_code 35 = .ok (.iload_n 2, 1) := by decide +kernel
theorem d_M_isBetter_36 : decode prog_14_method_63_code 36 = .ok (.iload 4, 2) := by decide +kernel
theorem d_M_isBetter_38 : decode prog_14_method_63_code 38 = .ok (.invokevirtual 318, 3) := by decide +kernel
theorem d_M_isBetter_41 : decode prog_14_method_63_code 41 = .ok (.if_icmp .le 5, 3) := by decide +kernel
theorem d_M_isBetter_44 : decode prog_14_method_63_code 44 = .ok (.iconst 0, 1) := by decide +kernel
theorem d_M_isBetter_45 : decode prog_14_method_63_code 45 = .ok (.ireturn, 1) := by decide +kernel
theorem d_M_isBetter_46 : decode prog_14_method_63_code 46 = .ok (.iload_n 3, 1) := by decide +kernel
theorem d_M_isBetter_47 : decode prog_14_method_63_code 47 = .ok (.ifCond .ne 20, 3) := by decide +kernel
theorem d_M_isBetter_50 : decode prog_14_method_63_code 50 = .ok (.aload_n 0, 1) := by decide +kernel
theorem d_M_isBetter_51 : decode prog_14_method_63_code 51 = .ok (.iload_n 1, 1) := by decide +kernel
theorem d_M_isBetter_52 : decode prog_14_method_63_code 52 = .ok (.iload 4, 2) := by decide +kernel
theorem d_M_isBetter_54 : decode prog_14_method_63_code 54 = .ok (.invokevirtual 318, 3) := by decide +kernel
theorem d_M_isBetter_57 : decode prog_14_method_63_code 57 = .ok (.aload_n 0, 1) := by decide +kernel
theorem d_M_isBetter_58 : decode prog_14_method_63_code 58 = .ok (.iload_n 2, 1) := by decide +kernel
theorem d_M_isBetter_59 : decode prog_14_method_63_code 59 = .ok (.iload 4, 2) := by decide +kernel
theorem d_M_isBetter_61 : decode prog_14_method_63_code 61 = .ok (.invokevirtual 318, 3) := by decide +kernel
theorem d_M_isBetter_64 : decode prog_14_method_63_code 64 = .ok (.if_icmp .ge 7, 3) := by decide +kernel
theorem d_M_isBetter_67 : decode prog_14_method_63_code 67 = .ok (.iconst 1, 1) := by decide +kernel
theorem d_M_isBetter_68 : decode prog_14_method_63_code 68 = .ok (.goto 4, 3) := by decide +kernel
theorem d_M_isBetter_71 : decode prog_14_method_63_code 71 = .ok (.iconst 0, 1) := by decide +kernel
theorem d_M_isBetter_72 : decode prog_14_method_63_code 72 = .ok (.istore_n 3, 1) := by decide +kernel
theorem d_M_isBetter_73 : decode prog_14_method_63_code 73 = .ok (.iinc 4 1, 3) := by decide +kernel
theorem d_M_isBetter_76 : decode prog_14_method_63_code 76 = .ok (.goto (-71), 3) := by decide +kernel
theorem d_M_isBetter_79 : decode prog_14_method_63_code 79 = .ok (.iconst 0, 1) := by decide +kernel
theorem d_M_isBetter_80 : decode prog_14_method_63_code 80 = .ok (.istore 4, 2) := by decide +kernel
theorem d_M_isBetter_82 : decode prog_14_method_63_code 82 = .ok (.iload 4, 2) := by decide +kernel
theorem d_M_isBetter_84 : decode prog_14_method_63_code 84 = .ok (.aload_n 0, 1) := by decide +kernel
theorem d_M_isBetter_85 : decode prog_14_method_63_code 85 = .ok (.getfield 190, 3) := by decide +kernel
theorem d_M_isBetter_88 : decode prog_14_method_63_code 88 = .ok (.if_icmp .ge 55, 3) := by decide +kernel
theorem d_M_isBetter_91 : decode prog_14_method_63_code 91 = .ok (.aload_n 0, 1) := by decide +kernel
theorem d_M_isBetter_92 : decode prog_14_method_63_code 92 = .ok (.iload_n 1, 1) := by decide +kernel
theorem d_M_isBetter_93 : decode prog_14_method_63_code 93 = .ok (.iload 4, 2) := by decide +kernel
theorem d_M_isBetter_95 : decode prog_14_method_63_code 95 = .ok (.invokevirtual 321, 3) := by decide +kernel
theorem d_M_isBetter_98 : decode prog_14_method_63_code 98 = .ok (.aload_n 0, 1) := by decide +kernel
theorem d_M_isBetter_99 : decode prog_14_method_63_code 99 = .ok (.iload_n 2, 1) := by decide +kernel
theorem d_M_isBetter_100 : decode prog_14_method_63_code 100 = .ok (.iload 4, 2) := by decide +kernel
theorem d_M_isBetter_102 : decode prog_14_method_63_code 102 = .ok (.invokevirtual 321, 3) := by decide +kernel
theorem d_M_isBetter_105 : decode prog_14_method_63_code 105 = .ok (.if_icmp .le 5, 3) := by decide +kernel
theorem d_M_isBetter_108 : decode prog_14_method_63_code 108 = .ok (.iconst 0, 1) := by decide +kernel
theorem d_M_isBetter_109 : decode prog_14_method_63_code 109 = .ok (.ireturn, 1) := by decide +kernel
theorem d_M_isBetter_110 : decode prog_14_method_63_code 110 = .ok (.iload_n 3, 1) := by decide +kernel
theorem d_M_isBetter_111 : decode prog_14_method_63_code 111 = .ok (.ifCond .ne 20, 3) := by decide +kernel
theorem d_M_isBetter_114 : decode prog_14_method_63_code 114 = .ok (.aload_n 0, 1) := by decide +kernel
theorem d_M_isBetter_115 : decode prog_14_method_63_code 115 = .ok (.iload_n 1, 1) := by decide +kernel
theorem d_M_isBetter_116 : decode prog_14_method_63_code 116 = .ok (.iload 4, 2) := by decide +kernel
theorem d_M_isBetter_118 : decode prog_14_method_63_code 118 = .ok (.invokevirtual 321, 3) := by decide +kernel
theorem d_M_isBetter_121 : decode prog_14_method_63_code 121 = .ok (.aload_n 0, 1) := by decide +kernel
theorem d_M_isBetter_122 : decode prog_14_method_63_code 122 = .ok (.iload_n 2, 1) := by decide +kernel
theorem d_M_isBetter_123 : decode prog_14_method_63_code 123 = .ok (.iload 4, 2) := by decide +kernel
theorem d_M_isBetter_125 : decode prog_14_method_63_code 125 = .ok (.invokevirtual 321, 3) := by decide +kernel
theorem d_M_isBetter_128 : decode prog_14_method_63_code 128 = .ok (.if_icmp .ge 7, 3) := by decide +kernel
theorem d_M_isBetter_131 : decode prog_14_method_63_code 131 = .ok (.iconst 1, 1) := by decide +kernel
theorem d_M_isBetter_132 : decode prog_14_method_63_code 132 = .ok (.goto 4, 3) := by decide +kernel
theorem d_M_isBetter_135 : decode prog_14_method_63_code 135 = .ok (.iconst 0, 1) := by decide +kernel
theorem d_M_isBetter_136 : decode prog_14_method_63_code 136 = .ok (.istore_n 3, 1) := by decide +kernel
theorem d_M_isBetter_137 : decode prog_14_method_63_code 137 = .ok (.iinc 4 1, 3) := by decide +kernel
theorem d_M_isBetter_140 : decode prog_14_method_63_code 140 = .ok (.goto (-58), 3) := by decide +kernel
theorem d_M_isBetter_143 : decode prog_14_method_63_code 143 = .ok (.iload_n 3, 1) := by decide +kernel
theorem d_M_isBetter_144 : decode prog_14_method_63_code 144 = .ok (.ireturn, 1) := by decide +kernel
theorem d_M_best_0 : decode prog_14_method_64_code 0 = .ok (.aload_n 0, 1) := by decide +kernel
theorem d_M_best_1 : decode prog_14_method_64_code 1 = .ok (.iconst 0, 1) := by decide +kernel
theorem d_M_best_2 : decode prog_14_method_64_code 2 = .ok (.putfield 148, 3) := by decide +kernel
theorem d_M_best_5 : decode prog_14_method_64_code 5 = .ok (.iload_n 1, 1) := by decide +kernel
theorem d_M_best_6 : decode prog_14_method_64_code 6 = .ok (.iconst 0, 1) := by decide +kernel
theorem d_M_best_7 : decode prog_14_method_64_code 7 = .ok (.iconst 1, 1) := by decide +kernel
theorem d_M_best_8 : decode prog_14_method_64_code 8 = .ok (.invokestatic 154, 3) := by decide +kernel
theorem d_M_best_11 : decode prog_14_method_64_code 11 = .ok (.ifCond .ne 5, 3) := by decide +kernel
theorem d_M_best_14 : decode prog_14_method_64_code 14 = .ok (.iconst (-1), 1) := by decide +kernel
theorem d_M_best_15 : decode prog_14_method_64_code 15 = .ok (.ireturn, 1) := by decide +kernel
theorem d_M_best_16 : decode prog_14_method_64_code 16 = .ok (.aload_n 0, 1) := by decide +kernel
theorem d_M_best_17 : decode prog_14_method_64_code 17 = .ok (.invokevirtual 371, 3) := by decide +kernel
theorem d_M_best_20 : decode prog_14_method_64_code 20 = .ok (.iconst 0, 1) := by decide +kernel
theorem d_M_best_21 : decode prog_14_method_64_code 21 = .ok (.istore_n 2, 1) := by decide +kernel
theorem d_M_best_22 : decode prog_14_method_64_code 22 = .ok (.iload_n 2, 1) := by decide +kernel
theorem d_M_best_23 : decode prog_14_method_64_code 23 = .ok (.aload_n 0, 1) := by decide +kernel
theorem d_M_best_24 : decode prog_14_method_64_code 24 = .ok (.getfield 364, 3) := by decide +kernel
theorem d_M_best_27 : decode prog_14_method_64_code 27 = .ok (.if_icmp .ge 103, 3) := by decide +kernel
theorem d_M_best_30 : decode prog_14_method_64_code 30 = .ok (.iconst 1, 1) := by decide +kernel
theorem d_M_best_31 : decode prog_14_method_64_code 31 = .ok (.istore_n 3, 1) := by decide +kernel
theorem d_M_best_32 : decode prog_14_method_64_code 32 = .ok (.iconst 0, 1) := by decide +kernel
theorem d_M_best_33 : decode prog_14_method_64_code 33 = .ok (.istore 4, 2) := by decide +kernel
theorem d_M_best_35 : decode prog_14_method_64_code 35 = .ok (.iload 4, 2) := by decide +kernel
theorem d_M_best_37 : decode prog_14_method_64_code 37 = .ok (.aload_n 0, 1) := by decide +kernel
theorem d_M_best_38 : decode prog_14_method_64_code 38 = .ok (.getfield 364, 3) := by decide +kernel
theorem d_M_best_41 : decode prog_14_method_64_code 41 = .ok (.if_icmp .ge 72, 3) := by decide +kernel
theorem d_M_best_44 : decode prog_14_method_64_code 44 = .ok (.iload_n 3, 1) := by decide +kernel
theorem d_M_best_45 : decode prog_14_method_64_code 45 = .ok (.ifCond .eq 68, 3) := by decide +kernel
theorem d_M_best_48 : decode prog_14_method_64_code 48 = .ok (.iload 4, 2) := by decide +kernel
theorem d_M_best_50 : decode prog_14_method_64_code 50 = .ok (.iload_n 2, 1) := by decide +kernel
theorem d_M_best_51 : decode prog_14_method_64_code 51 = .ok (.if_icmp .eq 50, 3) := by decide +kernel
theorem d_M_best_54 : decode prog_14_method_64_code 54 = .ok (.iload_n 1, 1) := by decide +kernel
theorem d_M_best_55 : decode prog_14_method_64_code 55 = .ok (.ifCond .ne 26, 3) := by decide +kernel
theorem d_M_best_58 : decode prog_14_method_64_code 58 = .ok (.aload_n 0, 1) := by decide +kernel
theorem d_M_best_59 : decode prog_14_method_64_code 59 = .ok (.aload_n 0, 1) := by decide +kernel
theorem d_M_best_60 : decode prog_14_method_64_code 60 = .ok (.getfield 136, 3) := by decide +kernel
theorem d_M_best_63 : decode prog_14_method_64_code 63 = .ok (.iload_n 2, 1) := by decide +kernel
theorem d_M_best_64 : decode prog_14_method_64_code 64 = .ok (.iaload, 1) := by decide +kernel
theorem d_M_best_65 : decode prog_14_method_64_code 65 = .ok (.aload_n 0, 1) := by decide +kernel
theorem d_M_best_66 : decode prog_14_method_64_code 66 = .ok (.getfield 136, 3) := by decide +kernel
theorem d_M_best_69 : decode prog_14_method_64_code 69 = .ok (.iload 4, 2) := by decide +kernel
theorem d_M_best_71 : decode prog_14_method_64_code 71 = .ok (.iaload, 1) := by decide +kernel
theorem d_M_best_72 : decode prog_14_method_64_code 72 = .ok (.invokevirtual 374, 3) := by decide +kernel
theorem d_M_best_75 : decode prog_14_method_64_code 75 = .ok (.ifCond .eq 30, 3) := by decide +kernel
theorem d_M_best_78 : decode prog_14_method_64_code 78 = .ok (.goto 23, 3) := by decide +kernel
theorem d_M_best_81 : decode prog_14_method_64_code 81 = .ok (.aload_n 0, 1) := by decide +kernel
theorem d_M_best_82 : decode prog_14_method_64_code 82 = .ok (.aload_n 0, 1) := by decide +kernel
theorem d_M_best_83 : decode prog_14_method_64_code 83 = .ok (.getfield 136, 3) := by decide +kernel
theorem d_M_best_86 : decode prog_14_method_64_code 86 = .ok (.iload 4, 2) := by decide +kernel
theorem d_M_best_88 : decode prog_14_method_64_code 88 = .ok (.iaload, 1) := by decide +kernel
theorem d_M_best_89 : decode prog_14_method_64_code 89 = .ok (.aload_n 0, 1) := by decide +kernel
theorem d_M_best_90 : decode prog_14_method_64_code 90 = .ok (.getfield 136, 3) := by decide +kernel
theorem d_M_best_93 : decode prog_14_method_64_code 93 = .ok (.iload_n 2, 1) := by decide +kernel
theorem d_M_best_94 : decode prog_14_method_64_code 94 = .ok (.iaload, 1) := by decide +kernel
theorem d_M_best_95 : decode prog_14_method_64_code 95 = .ok (.invokevirtual 374, 3) := by decide +kernel
theorem d_M_best_98 : decode prog_14_method_64_code 98 = .ok (.ifCond .eq 7, 3) := by decide +kernel
theorem d_M_best_101 : decode prog_14_method_64_code 101 = .ok (.iconst 1, 1) := by decide +kernel
theorem d_M_best_102 : decode prog_14_method_64_code 102 = .ok (.goto 4, 3) := by decide +kernel
theorem d_M_best_105 : decode prog_14_method_64_code 105 = .ok (.iconst 0, 1) := by decide +kernel
theorem d_M_best_106 : decode prog_14_method_64_code 106 = .ok (.istore_n 3, 1) := by decide +kernel
theorem d_M_best_107 : decode prog_14_method_64_code 107 = .ok (.iinc 4 1, 3) := by decide +kernel
theorem d_M_best_110 : decode prog_14_method_64_code 110 = .ok (.goto (-75), 3) := by decide +kernel
theorem d_M_best_113 : decode prog_14_method_64_code 113 = .ok (.iload_n 3, 1) := by decide +kernel
theorem d_M_best_114 : decode prog_14_method_64_code 114 = .ok (.ifCond .eq 10, 3) := by decide +kernel
theorem d_M_best_117 : decode prog_14_method_64_code 117 = .ok (.aload_n 0, 1) := by decide +kernel
theorem d_M_best_118 : decode prog_14_method_64_code 118 = .ok (.getfield 136, 3) := by decide +kernel
theorem d_M_best_121 : decode prog_14_method_64_code 121 = .ok (.iload_n 2, 1) := by decide +kernel
theorem d_M_best_122 : decode prog_14_method_64_code 122 = .ok (.iaload, 1) := by decide +kernel
theorem d_M_best_123 : decode prog_14_method_64_code 123 = .ok (.ireturn, 1) := by decide +kernel
theorem d_M_best_124 : decode prog_14_method_64_code 124 = .ok (.iinc 2 1, 3) := by decide +kernel
theorem d_M_best_127 : decode prog_14_method_64_code 127 = .ok (.goto (-105), 3) := by decide +kernel
theorem d_M_best_130 : decode prog_14_method_64_code 130 = .ok (.bipush (-2), 2) := by decide +kernel
theorem d_M_best_132 : decode prog_14_method_64_code 132 = .ok (.ireturn, 1) := by decide +kernel
theorem d_M_isNext_0 : decode prog_14_method_65_code 0 = .ok (.aload_n 0, 1) := by decide +kernel
theorem d_M_isNext_1 : decode prog_14_method_65_code 1 = .ok (.iload_n 1, 1) := by decide +kernel
theorem d_M_isNext_2 : decode prog_14_method_65_code 2 = .ok (.iload_n 2, 1) := by decide +kernel
theorem d_M_isNext_3 : decode prog_14_method_65_code 3 = .ok (.invokevirtual 374, 3) := by decide +kernel
theorem d_M_isNext_6 : decode prog_14_method_65_code 6 = .ok (.istore_n 3, 1) := by decide +kernel
theorem d_M_isNext_7 : decode prog_14_method_65_code 7 = .ok (.iload_n 3, 1) := by decide +kernel
theorem d_M_isNext_8 : decode prog_14_method_65_code 8 = .ok (.ifCond .ne 14, 3) := by decide +kernel
theorem d_M_isNext_11 : decode prog_14_method_65_code 11 = .ok (.aload_n 0, 1) := by decide +kernel
theorem d_M_isNext_12 : decode prog_14_method_65_code 12 = .ok (.iload_n 2, 1) := by decide +kernel
theorem d_M_isNext_13 : decode prog_14_method_65_code 13 = .ok (.iload_n 1, 1) := by decide +kernel
theorem d_M_isNext_14 : decode prog_14_method_65_code 14 = .ok (.invokevirtual 374, 3) := by decide +kernel
theorem d_M_isNext_17 : decode prog_14_method_65_code 17 = .ok (.ifCond .ne 5, 3) := by decide +kernel
theorem d_M_isNext_20 : decode prog_14_method_65_code 20 = .ok (.iconst 0, 1) := by decide +kernel
theorem d_M_isNext_21 : decode prog_14_method_65_code 21 = .ok (.ireturn, 1) := by decide +kernel
theorem d_M_isNext_22 : decode prog_14_method_65_code 22 = .ok (.iload_n 3, 1) := by decide +kernel
theorem d_M_isNext_23 : decode prog_14_method_65_code 23 = .ok (.ifCond .eq 7, 3) := by decide +kernel
theorem d_M_isNext_26 : decode prog_14_method_65_code 26 = .ok (.iload_n 1, 1) := by decide +kernel
theorem d_M_isNext_27 : decode prog_14_method_65_code 27 = .ok (.goto 4, 3) := by decide +kernel
theorem d_M_isNext_30 : decode prog_14_method_65_code 30 = .ok (.iload_n 2, 1) := by decide +kernel
theorem d_M_isNext_31 : decode prog_14_method_65_code 31 = .ok (.istore 4, 2) := by decide +kernel
theorem d_M_isNext_33 : decode prog_14_method_65_code 33 = .ok (.iload_n 3, 1) := by decide +kernel
theorem d_M_isNext_34 : decode prog_14_method_65_code 34 = .ok (.ifCond .eq 7, 3) := by decide +kernel
theorem d_M_isNext_37 : decode prog_14_method_65_code 37 = .ok (.iload_n 2, 1) := by decide +kernel
theorem d_M_isNext_38 : decode prog_14_method_65_code 38 = .ok (.goto 4, 3) := by decide +kernel
theorem d_M_isNext_41 : decode prog_14_method_65_code 41 = .ok (.iload_n 1, 1) := by decide +kernel
theorem d_M_isNext_42 : decode prog_14_method_65_code 42 = .ok (.istore 5, 2) := by decide +kernel
theorem d_M_isNext_44 : decode prog_14_method_65_code 44 = .ok (.iconst 0, 1) := by decide +kernel
theorem d_M_isNext_45 : decode prog_14_method_65_code 45 = .ok (.istore 6, 2) := by decide +kernel
theorem d_M_isNext_47 : decode prog_14_method_65_code 47 = .ok (.iload 6, 2) := by decide +kernel
theorem d_M_isNext_49 : decode prog_14_method_65_code 49 = .ok (.aload_n 0, 1) := by decide +kernel
theorem d_M_isNext_50 : decode prog_14_method_65_code 50 = .ok (.getfield 364, 3) := by decide +kernel
theorem d_M_isNext_53 : decode prog_14_method_65_code 53 = .ok (.if_icmp .ge 43, 3) := by decide +kernel
theorem d_M_isNext_56 : decode prog_14_method_65_code 56 = .ok (.aload_n 0, 1) := by decide +kernel
theorem d_M_isNext_57 : decode prog_14_method_65_code 57 = .ok (.iload 4, 2) := by decide +kernel
theorem d_M_isNext_59 : decode prog_14_method_65_code 59 = .ok (.aload_n 0, 1) := by decide +kernel
theorem d_M_isNext_60 : decode prog_14_method_65_code 60 = .ok (.getfield 136, 3) := by decide +kernel
theorem d_M_isNext_63 : decode prog_14_method_65_code 63 = .ok (.iload 6, 2) := by decide +kernel
theorem d_M_isNext_65 : decode prog_14_method_65_code 65 = .ok (.iaload, 1) := by decide +kernel
theorem d_M_isNext_66 : decode prog_14_method_65_code 66 = .ok (.invokevirtual 374, 3) := by decide +kernel
theorem d_M_isNext_69 : decode prog_14_method_65_code 69 = .ok (.ifCond .eq 21, 3) := by decide +kernel
theorem d_M_isNext_72 : decode prog_14_method_65_code 72 = .ok (.aload_n 0, 1) := by decide +kernel
theorem d_M_isNext_73 : decode prog_14_method_65_code 73 = .ok (.aload_n 0, 1) := by decide +kernel
theorem d_M_isNext_74 : decode prog_14_method_65_code 74 = .ok (.getfield 136, 3) := by decide +kernel
theorem d_M_isNext_77 : decode prog_14_method_65_code 77 = .ok (.iload 6, 2) := by decide +kernel
theorem d_M_isNext_79 : decode prog_14_method_65_code 79 = .ok (.iaload, 1) := by decide +kernel
theorem d_M_isNext_80 : decode prog_14_method_65_code 80 = .ok (.iload 5, 2) := by decide +kernel
theorem d_M_isNext_82 : decode prog_14_method_65_code 82 = .ok (.invokevirtual 374, 3) := by decide +kernel
theorem d_M_isNext_85 : decode prog_14_method_65_code 85 = .ok (.ifCond .eq 5, 3) := by decide +kernel
theorem d_M_isNext_88 : decode prog_14_method_65_code 88 = .ok (.iconst 0, 1) := by decide +kernel
theorem d_M_isNext_89 : decode prog_14_method_65_code 89 = .ok (.ireturn, 1) := by decide +kernel
theorem d_M_isNext_90 : decode prog_14_method_65_code 90 = .ok (.iinc 6 1, 3) := by decide +kernel
theorem d_M_isNext_93 : decode prog_14_method_65_code 93 = .ok (.goto (-46), 3) := by decide +kernel
theorem d_M_isNext_96 : decode prog_14_method_65_code 96 = .ok (.iconst 1, 1) := by decide +kernel
theorem d_M_isNext_97 : decode prog_14_method_65_code 97 = .ok (.ireturn, 1) := by decide +kernel
theorem d_M_steps_0 : decode prog_14_method_66_code 0 = .ok (.aload_n 0, 1) := by decide +kernel
theorem d_M_steps_1 : decode prog_14_method_66_code 1 = .ok (.iconst 0, 1) := by decide +kernel
theorem d_M_steps_2 : decode prog_14_method_66_code 2 = .ok (.putfield 148, 3) := by decide +kernel
theorem d_M_steps_5 : decode prog_14_method_66_code 5 = .ok (.aload_n 0, 1) := by decide +kernel
theorem d_M_steps_6 : decode prog_14_method_66_code 6 = .ok (.iload_n 1, 1) := by decide +kernel
theorem d_M_steps_7 : decode prog_14_method_66_code 7 = .ok (.invokevirtual 300, 3) := by decide +kernel
theorem d_M_steps_10 : decode prog_14_method_66_code 10 = .ok (.ifCond .eq 27, 3) := by decide +kernel
theorem d_M_steps_13 : decode prog_14_method_66_code 13 = .ok (.aload_n 0, 1) := by decide +kernel
theorem d_M_steps_14 : decode prog_14_method_66_code 14 = .ok (.iload_n 2, 1) := by decide +kernel
theorem d_M_steps_15 : decode prog_14_method_66_code 15 = .ok (.invokevirtual 300, 3) := by decide +kernel
theorem d_M_steps_18 : decode prog_14_method_66_code 18 = .ok (.ifCond .eq 19, 3) := by decide +kernel
theorem d_M_steps_21 : decode prog_14_method_66_code 21 = .ok (.aload_n 0, 1) := by decide +kernel
theorem d_M_steps_22 : decode prog_14_method_66_code 22 = .ok (.iload_n 1, 1) := by decide +kernel
theorem d_M_steps_23 : decode prog_14_method_66_code 23 = .ok (.invokevirtual 343, 3) := by decide +kernel
theorem d_M_steps_26 : decode prog_14_method_66_code 26 = .ok (.ifCond .ne 11, 3) := by decide +kernel
theorem d_M_steps_29 : decode prog_14_method_66_code 29 = .ok (.aload_n 0, 1) := by decide +kernel
theorem d_M_steps_30 : decode prog_14_method_66_code 30 = .ok (.iload_n 2, 1) := by decide +kernel
theorem d_M_steps_31 : decode prog_14_method_66_code 31 = .ok (.invokevirtual 343, 3) := by decide +kernel
theorem d_M_steps_34 : decode prog_14_method_66_code 34 = .ok (.ifCond .eq 5, 3) := by decide +kernel
theorem d_M_steps_37 : decode prog_14_method_66_code 37 = .ok (.iconst (-1), 1) := by decide +kernel
theorem d_M_steps_38 : decode prog_14_method_66_code 38 = .ok (.ireturn, 1) := by decide +kernel
theorem d_M_steps_39 : decode prog_14_method_66_code 39 = .ok (.aload_n 0, 1) := by decide +kernel
theorem d_M_steps_40 : decode prog_14_method_66_code 40 = .ok (.invokevirtual 371, 3) := by decide +kernel
theorem d_M_steps_43 : decode prog_14_method_66_code 43 = .ok (.iconst 0, 1) := by decide +kernel
theorem d_M_steps_44 : decode prog_14_method_66_code 44 = .ok (.istore_n 3, 1) := by decide +kernel
theorem d_M_steps_45 : decode prog_14_method_66_code 45 = .ok (.iconst 0, 1) := by decide +kernel
theorem d_M_steps_46 : decode prog_14_method_66_code 46 = .ok (.istore 4, 2) := by decide +kernel
theorem d_M_steps_48 : decode prog_14_method_66_code 48 = .ok (.iconst 0, 1) := by decide +kernel
theorem d_M_steps_49 : decode prog_14_method_66_code 49 = .ok (.istore 5, 2) := by decide +kernel
theorem d_M_steps_51 : decode prog_14_method_66_code 51 = .ok (.iload 5, 2) := by decide +kernel
theorem d_M_steps_53 : decode prog_14_method_66_code 53 = .ok (.aload_n 0, 1) := by decide +kernel
theorem d_M_steps_54 : decode prog_14_method_66_code 54 = .ok (.getfield 364, 3) := by decide +kernel
theorem d_M_steps_57 : decode prog_14_method_66_code 57 = .ok (.if_icmp .ge 54, 3) := by decide +kernel
theorem d_M_steps_60 : decode prog_14_method_66_code 60 = .ok (.aload_n 0, 1) := by decide +kernel
theorem d_M_steps_61 : decode prog_14_method_66_code 61 = .ok (.getfield 139, 3) := by decide +kernel
theorem d_M_steps_64 : decode prog_14_method_66_code 64 = .ok (.iload 5, 2) := by decide +kernel
theorem d_M_steps_66 : decode prog_14_method_66_code 66 = .ok (.aload_n 0, 1) := by decide +kernel
theorem d_M_steps_67 : decode prog_14_method_66_code 67 = .ok (.getfield 136, 3) := by decide +kernel
theorem d_M_steps_70 : decode prog_14_method_66_code 70 = .ok (.iload 5, 2) := by decide +kernel
theorem d_M_steps_72 : decode prog_14_method_66_code 72 = .ok (.iaload, 1) := by decide +kernel
theorem d_M_steps_73 : decode prog_14_method_66_code 73 = .ok (.iload_n 1, 1) := by decide +kernel
theorem d_M_steps_74 : decode prog_14_method_66_code 74 = .ok (.if_icmp .ne 7, 3) := by decide +kernel
theorem d_M_steps_77 : decode prog_14_method_66_code 77 = .ok (.iconst 0, 1) := by decide +kernel
theorem d_M_steps_78 : decode prog_14_method_66_code 78 = .ok (.goto 4, 3) := by decide +kernel
theorem d_M_steps_81 : decode prog_14_method_66_code 81 = .ok (.iconst (-1), 1) := by decide +kernel
theorem d_M_steps_82 : decode prog_14_method_66_code 82 = .ok (.iastore, 1) := by decide +kernel
theorem d_M_steps_83 : decode prog_14_method_66_code 83 = .ok (.aload_n 0, 1) := by decide +kernel
theorem d_M_steps_84 : decode prog_14_method_66_code 84 = .ok (.getfield 139, 3) := by decide +kernel
theorem d_M_steps_87 : decode prog_14_method_66_code 87 = .ok (.iload 5, 2) := by decide +kernel
theorem d_M_steps_89 : decode prog_14_method_66_code 89 = .ok (.iaload, 1) := by decide +kernel
theorem d_M_steps_90 : decode prog_14_method_66_code 90 = .ok (.ifCond .ne 15, 3) := by decide +kernel
theorem d_M_steps_93 : decode prog_14_method_66_code 93 = .ok (.aload_n 0, 1) := by decide +kernel
theorem d_M_steps_94 : decode prog_14_method_66_code 94 = .ok (.getfield 142, 3) := by decide +kernel
theorem d_M_steps_97 : decode prog_14_method_66_code 97 = .ok (.iload 4, 2) := by decide +kernel
theorem d_M_steps_99 : decode prog_14_method_66_code 99 = .ok (.iinc 4 1, 3) := by decide +kernel
theorem d_M_steps_102 : decode prog_14_method_66_code 102 = .ok (.iload 5, 2) := by decide +kernel
theorem d_M_steps_104 : decode prog_14_method_66_code 104 = .ok (.iastore, 1) := by decide +kernel
theorem d_M_steps_105 : decode prog_14_method_66_code 105 = .ok (.iinc 5 1, 3) := by decide +kernel
theorem d_M_steps_108 : decode prog_14_method_66_code 108 = .ok (.goto (-57), 3) := by decide +kernel
theorem d_M_steps_111 : decode prog_14_method_66_code 111 = .ok (.iload_n 3, 1) := by decide +kernel
theorem d_M_steps_112 : decode prog_14_method_66_code 112 = .ok (.iload 4, 2) := by decide +kernel
theorem d_M_steps_114 : decode prog_14_method_66_code 114 = .ok (.if_icmp .ge 117, 3) := by decide +kernel
theorem d_M_steps_117 : decode prog_14_method_66_code 117 = .ok (.aload_n 0, 1) := by decide +kernel
theorem d_M_steps_118 : decode prog_14_method_66_code 118 = .ok (.getfield 142, 3) := by decide +kernel
theorem d_M_steps_121 : decode prog_14_method_66_code 121 = .ok (.iload_n 3, 1) := by decide +kernel
theorem d_M_steps_122 : decode prog_14_method_66_code 122 = .ok (.iinc 3 1, 3) := by decide +kernel
theorem d_M_steps_125 : decode prog_14_method_66_code 125 = .ok (.iaload, 1) := by decide +kernel
theorem d_M_steps_126 : decode prog_14_method_66_code 126 = .ok (.istore 5, 2) := by decide +kernel
theorem d_M_steps_128 : decode prog_14_method_66_code 128 = .ok (.aload_n 0, 1) := by decide +kernel
theorem d_M_steps_129 : decode prog_14_method_66_code 129 = .ok (.getfield 136, 3) := by decide +kernel
theorem d_M_steps_132 : decode prog_14_method_66_code 132 = .ok (.iload 5, 2) := by decide +kernel
theorem d_M_steps_134 : decode prog_14_method_66_code 134 = .ok (.iaload, 1) := by decide +kernel
theorem d_M_steps_135 : decode prog_14_method_66_code 135 = .ok (.iload_n 2, 1) := by decide +kernel
theorem d_M_steps_136 : decode prog_14_method_66_code 136 = .ok (.if_icmp .ne 11, 3) := by decide +kernel
theorem d_M_steps_139 : decode prog_14_method_66_code 139 = .ok (.aload_n 0, 1) := by decide +kernel
theorem d_M_steps_140 : decode prog_14_method_66_code 140 = .ok (.getfield 139, 3) := by decide +kernel
theorem d_M_steps_143 : decode prog_14_method_66_code 143 = .ok (.iload 5, 2) := by decide +kernel
theorem d_M_steps_145 : decode prog_14_method_66_code 145 = .ok (.iaload, 1) := by decide +kernel
theorem d_M_steps_146 : decode prog_14_method_66_code 146 = .ok (.ireturn, 1) := by decide +kernel
theorem d_M_steps_147 : decode prog_14_method_66_code 147 = .ok (.iconst 0, 1) := by decide +kernel
theorem d_M_steps_148 : decode prog_14_method_66_code 148 = .ok (.istore 6, 2) := by decide +kernel
theorem d_M_steps_150 : decode prog_14_method_66_code 150 = .ok (.iload 6, 2) := by decide +kernel
theorem d_M_steps_152 : decode prog_14_method_66_code 152 = .ok (.aload_n 0, 1) := by decide +kernel
theorem d_M_steps_153 : decode prog_14_method_66_code 153 = .ok (.getfield 364, 3) := by decide +kernel
theorem d_M_steps_156 : decode prog_14_method_66_code 156 = .ok (.if_icmp .ge 72, 3) := by decide +kernel
theorem d_M_steps_159 : decode prog_14_method_66_code 159 = .ok (.aload_n 0, 1) := by decide +kernel
theorem d_M_steps_160 : decode prog_14_method_66_code 160 = .ok (.getfield 139, 3) := by decide +kernel
theorem d_M_steps_163 : decode prog_14_method_66_code 163 = .ok (.iload 6, 2) := by decide +kernel
theorem d_M_steps_165 : decode prog_14_method_66_code 165 = .ok (.iaload, 1) := by decide +kernel
theorem d_M_steps_166 : decode prog_14_method_66_code 166 = .ok (.iconst (-1), 1) := by decide +kernel
theorem d_M_steps_167 : decode prog_14_method_66_code 167 = .ok (.if_icmp .ne 55, 3) := by decide +kernel
theorem d_M_steps_170 : decode prog_14_method_66_code 170 = .ok (.aload_n 0, 1) := by decide +kernel
theorem d_M_steps_171 : decode prog_14_method_66_code 171 = .ok (.aload_n 0, 1) := by decide +kernel
theorem d_M_steps_172 : decode prog_14_method_66_code 172 = .ok (.getfield 136, 3) := by decide +kernel
theorem d_M_steps_175 : decode prog_14_method_66_code 175 = .ok (.iload 5, 2) := by decide +kernel
theorem d_M_steps_177 : decode prog_14_method_66_code 177 = .ok (.iaload, 1) := by decide +kernel
theorem d_M_steps_178 : decode prog_14_method_66_code 178 = .ok (.aload_n 0, 1) := by decide +kernel
theorem d_M_steps_179 : decode prog_14_method_66_code 179 = .ok (.getfield 136, 3) := by decide +kernel
theorem d_M_steps_182 : decode prog_14_method_66_code 182 = .ok (.iload 6, 2) := by decide +kernel
theorem d_M_steps_184 : decode prog_14_method_66_code 184 = .ok (.iaload, 1) := by decide +kernel
theorem d_M_steps_185 : decode prog_14_method_66_code 185 = .ok (.invokevirtual 377, 3) := by decide +kernel
theorem d_M_steps_188 : decode prog_14_method_66_code 188 = .ok (.ifCond .ne 6, 3) := by decide +kernel
theorem d_M_steps_191 : decode prog_14_method_66_code 191 = .ok (.goto 31, 3) := by decide +kernel
theorem d_M_steps_194 : decode prog_14_method_66_code 194 = .ok (.aload_n 0, 1) := by decide +kernel
theorem d_M_steps_195 : decode prog_14_method_66_code 195 = .ok (.getfield 139, 3) := by decide +kernel
theorem d_M_steps_198 : decode prog_14_method_66_code 198 = .ok (.iload 6, 2) := by decide +kernel
theorem d_M_steps_200 : decode prog_14_method_66_code 200 = .ok (.aload_n 0, 1) := by decide +kernel
theorem d_M_steps_201 : decode prog_14_method_66_code 201 = .ok (.getfield 139, 3) := by decide +kernel
theorem d_M_steps_204 : decode prog_14_method_66_code 204 = .ok (.iload 5, 2) := by decide +kernel
theorem d_M_steps_206 : decode prog_14_method_66_code 206 = .ok (.iaload, 1) := by decide +kernel
theorem d_M_steps_207 : decode prog_14_method_66_code 207 = .ok (.iconst 1, 1) := by decide +kernel
theorem d_M_steps_208 : decode prog_14_method_66_code 208 = .ok (.iadd, 1) := by decide +kernel
theorem d_M_steps_209 : decode prog_14_method_66_code 209 = .ok (.iastore, 1) := by decide +kernel
theorem d_M_steps_210 : decode prog_14_method_66_code 210 = .ok (.aload_n 0, 1) := by decide +kernel
theorem d_M_steps_211 : decode prog_14_method_66_code 211 = .ok (.getfield 142, 3) := by decide +kernel
theorem d_M_steps_214 : decode prog_14_method_66_code 214 = .ok (.iload 4, 2) := by decide +kernel
theorem d_M_steps_216 : decode prog_14_method_66_code 216 = .ok (.iinc 4 1, 3) := by decide +kernel
theorem d_M_steps_219 : decode prog_14_method_66_code 219 = .ok (.iload 6, 2) := by decide +kernel
theorem d_M_steps_221 : decode prog_14_method_66_code 221 = .ok (.iastore, 1) := by decide +kernel
theorem d_M_steps_222 : decode prog_14_method_66_code 222 = .ok (.iinc 6 1, 3) := by decide +kernel
theorem d_M_steps_225 : decode prog_14_method_66_code 225 = .ok (.goto (-75), 3) := by decide +kernel
theorem d_M_steps_228 : decode prog_14_method_66_code 228 = .ok (.goto (-117), 3) := by decide +kernel
theorem d_M_steps_231 : decode prog_14_method_66_code 231 = .ok (.bipush (-2), 2) := by decide +kernel
theorem d_M_steps_233 : decode prog_14_method_66_code 233 = .ok (.ireturn, 1) := by decide +kernel
theorem d_M_offOf_0 : decode prog_14_method_67_code 0 = .ok (.iconst 0, 1) := by decide +kernel
theorem d_M_offOf_1 : decode prog_14_method_67_code 1 = .ok (.istore_n 2, 1) := by decide +kernel
theorem d_M_offOf_2 : decode prog_14_method_67_code 2 = .ok (.iconst 0, 1) := by decide +kernel
theorem d_M_offOf_3 : decode prog_14_method_67_code 3 = .ok (.istore_n 3, 1) := by decide +kernel
theorem d_M_offOf_4 : decode prog_14_method_67_code 4 = .ok (.iload_n 3, 1) := by decide +kernel
theorem d_M_offOf_5 : decode prog_14_method_67_code 5 = .ok (.aload_n 0, 1) := by decide +kernel
theorem d_M_offOf_6 : decode prog_14_method_67_code 6 = .ok (.getfield 190, 3) := by decide +kernel
theorem d_M_offOf_9 : decode prog_14_method_67_code 9 = .ok (.if_icmp .ge 22, 3) := by decide +kernel
theorem d_M_offOf_12 : decode prog_14_method_67_code 12 = .ok (.aload_n 0, 1) := by decide +kernel
theorem d_M_offOf_13 : decode prog_14_method_67_code 13 = .ok (.iload_n 1, 1) := by decide +kernel
theorem d_M_offOf_14 : decode prog_14_method_67_code 14 = .ok (.iload_n 3, 1) := by decide +kernel
theorem d_M_offOf_15 : decode prog_14_method_67_code 15 = .ok (.invokevirtual 340, 3) := by decide +kernel
theorem d_M_offOf_18 : decode prog_14_method_67_code 18 = .ok (.iconst (-1), 1) := by decide +kernel
theorem d_M_offOf_19 : decode prog_14_method_67_code 19 = .ok (.if_icmp .eq 6, 3) := by decide +kernel
theorem d_M_offOf_22 : decode prog_14_method_67_code 22 = .ok (.iinc 2 1, 3) := by decide +kernel
theorem d_M_offOf_25 : decode prog_14_method_67_code 25 = .ok (.iinc 3 1, 3) := by decide +kernel
theorem d_M_offOf_28 : decode prog_14_method_67_code 28 = .ok (.goto (-24), 3) := by decide +kernel
theorem d_M_offOf_31 : decode prog_14_method_67_code 31 = .ok (.aload_n 0, 1) := by decide +kernel
theorem d_M_offOf_32 : decode prog_14_method_67_code 32 = .ok (.iload_n 1, 1) := by decide +kernel
theorem d_M_offOf_33 : decode prog_14_method_67_code 33 = .ok (.invokevirtual 327, 3) := by decide +kernel
theorem d_M_offOf_36 : decode prog_14_method_67_code 36 = .ok (.istore_n 3, 1) := by decide +kernel
theorem d_M_offOf_37 : decode prog_14_method_67_code 37 = .ok (.iconst 0, 1) := by decide +kernel
theorem d_M_offOf_38 : decode prog_14_method_67_code 38 = .ok (.istore 4, 2) := by decide +kernel
theorem d_M_offOf_40 : decode prog_14_method_67_code 40 = .ok (.iload 4, 2) := by decide +kernel
theorem d_M_offOf_42 : decode prog_14_method_67_code 42 = .ok (.aload_n 0, 1) := by decide +kernel
theorem d_M_offOf_43 : decode prog_14_method_67_code 43 = .ok (.getfield 161, 3) := by decide +kernel
theorem d_M_offOf_46 : decode prog_14_method_67_code 46 = .ok (.if_icmp .ge 58, 3) := by decide +kernel
theorem d_M_offOf_49 : decode prog_14_method_67_code 49 = .ok (.iload_n 3, 1) := by decide +kernel
theorem d_M_offOf_50 : decode prog_14_method_67_code 50 = .ok (.iload 4, 2) := by decide +kernel
theorem d_M_offOf_52 : decode prog_14_method_67_code 52 = .ok (.invokestatic 262, 3) := by decide +kernel
theorem d_M_offOf_55 : decode prog_14_method_67_code 55 = .ok (.ifCond .eq 43, 3) := by decide +kernel
theorem d_M_offOf_58 : decode prog_14_method_67_code 58 = .ok (.aload_n 0, 1) := by decide +kernel
theorem d_M_offOf_59 : decode prog_14_method_67_code 59 = .ok (.aload_n 0, 1) := by decide +kernel
theorem d_M_offOf_60 : decode prog_14_method_67_code 60 = .ok (.getfield 16, 3) := by decide +kernel
theorem d_M_offOf_63 : decode prog_14_method_67_code 63 = .ok (.iload 4, 2) := by decide +kernel
theorem d_M_offOf_65 : decode prog_14_method_67_code 65 = .ok (.iaload, 1) := by decide +kernel
theorem d_M_offOf_66 : decode prog_14_method_67_code 66 = .ok (.iload_n 1, 1) := by decide +kernel
theorem d_M_offOf_67 : decode prog_14_method_67_code 67 = .ok (.aload_n 0, 1) := by decide +kernel
theorem d_M_offOf_68 : decode prog_14_method_67_code 68 = .ok (.aload_n 0, 1) := by decide +kernel
theorem d_M_offOf_69 : decode prog_14_method_67_code 69 = .ok (.getfield 16, 3) := by decide +kernel
theorem d_M_offOf_72 : decode prog_14_method_67_code 72 = .ok (.iload 4, 2) := by decide +kernel
theorem d_M_offOf_74 : decode prog_14_method_67_code 74 = .ok (.iaload, 1) := by decide +kernel
theorem d_M_offOf_75 : decode prog_14_method_67_code 75 = .ok (.invokevirtual 306, 3) := by decide +kernel
theorem d_M_offOf_78 : decode prog_14_method_67_code 78 = .ok (.iand, 1) := by decide +kernel
theorem d_M_offOf_79 : decode prog_14_method_67_code 79 = .ok (.iconst 1, 1) := by decide +kernel
theorem d_M_offOf_80 : decode prog_14_method_67_code 80 = .ok (.iload 4, 2) := by decide +kernel
theorem d_M_offOf_82 : decode prog_14_method_67_code 82 = .ok (.ishl, 1) := by decide +kernel
theorem d_M_offOf_83 : decode prog_14_method_67_code 83 = .ok (.ior, 1) := by decide +kernel
theorem d_M_offOf_84 : decode prog_14_method_67_code 84 = .ok (.invokevirtual 303, 3) := by decide +kernel
theorem d_M_offOf_87 : decode prog_14_method_67_code 87 = .ok (.iload 4, 2) := by decide +kernel
theorem d_M_offOf_89 : decode prog_14_method_67_code 89 = .ok (.invokestatic 262, 3) := by decide +kernel
theorem d_M_offOf_92 : decode prog_14_method_67_code 92 = .ok (.ifCond .eq 6, 3) := by decide +kernel
theorem d_M_offOf_95 : decode prog_14_method_67_code 95 = .ok (.iinc 2 1, 3) := by decide +kernel
theorem d_M_offOf_98 : decode prog_14_method_67_code 98 = .ok (.iinc 4 1, 3) := by decide +kernel
theorem d_M_offOf_101 : decode prog_14_method_67_code 101 = .ok (.goto (-61), 3) := by decide +kernel
theorem d_M_offOf_104 : decode prog_14_method_67_code 104 = .ok (.iload_n 2, 1) := by decide +kernel
theorem d_M_offOf_105 : decode prog_14_method_67_code 105 = .ok (.ireturn, 1) := by decide +kernel
theorem d_M_goNear_0 : decode prog_14_method_68_code 0 = .ok (.iload_n 1, 1) := by decide +kernel
theorem d_M_goNear_1 : decode prog_14_method_68_code 1 = .ok (.aload_n 0, 1) := by decide +kernel
theorem d_M_goNear_2 : decode prog_14_method_68_code 2 = .ok (.getfield 151, 3) := by decide +kernel
theorem d_M_goNear_5 : decode prog_14_method_68_code 5 = .ok (.if_icmp .ne 62, 3) := by decide +kernel
theorem d_M_goNear_8 : decode prog_14_method_68_code 8 = .ok (.aload_n 0, 1) := by decide +kernel
theorem d_M_goNear_9 : decode prog_14_method_68_code 9 = .ok (.iload_n 2, 1) := by decide +kernel
theorem d_M_goNear_10 : decode prog_14_method_68_code 10 = .ok (.invokevirtual 324, 3) := by decide +kernel
theorem d_M_goNear_13 : decode prog_14_method_68_code 13 = .ok (.ifCond .ne 4, 3) := by decide +kernel
theorem d_M_goNear_16 : decode prog_14_method_68_code 16 = .ok (.return_, 1) := by decide +kernel
theorem d_M_goNear_17 : decode prog_14_method_68_code 17 = .ok (.aload_n 0, 1) := by decide +kernel
theorem d_M_goNear_18 : decode prog_14_method_68_code 18 = .ok (.iload_n 2, 1) := by decide +kernel
theorem d_M_goNear_19 : decode prog_14_method_68_code 19 = .ok (.invokevirtual 380, 3) := by decide +kernel
theorem d_M_goNear_22 : decode prog_14_method_68_code 22 = .ok (.istore_n 3, 1) := by decide +kernel
theorem d_M_goNear_23 : decode prog_14_method_68_code 23 = .ok (.aload_n 0, 1) := by decide +kernel
theorem d_M_goNear_24 : decode prog_14_method_68_code 24 = .ok (.getfield 383, 3) := by decide +kernel
theorem d_M_goNear_27 : decode prog_14_method_68_code 27 = .ok (.iconst (-1), 1) := by decide +kernel
theorem d_M_goNear_28 : decode prog_14_method_68_code 28 = .ok (.if_icmp .eq 28, 3) := by decide +kernel
theorem d_M_goNear_31 : decode prog_14_method_68_code 31 = .ok (.iload_n 3, 1) := by decide +kernel
theorem d_M_goNear_32 : decode prog_14_method_68_code 32 = .ok (.aload_n 0, 1) := by decide +kernel
theorem d_M_goNear_33 : decode prog_14_method_68_code 33 = .ok (.getfield 383, 3) := by decide +kernel
theorem d_M_goNear_36 : decode prog_14_method_68_code 36 = .ok (.if_icmp .gt 19, 3) := by decide +kernel
theorem d_M_goNear_39 : decode prog_14_method_68_code 39 = .ok (.iload_n 3, 1) := by decide +kernel
theorem d_M_goNear_40 : decode prog_14_method_68_code 40 = .ok (.aload_n 0, 1) := by decide +kernel
theorem d_M_goNear_41 : decode prog_14_method_68_code 41 = .ok (.getfield 383, 3) := by decide +kernel
theorem d_M_goNear_44 : decode prog_14_method_68_code 44 = .ok (.if_icmp .ne 12, 3) := by decide +kernel
theorem d_M_goNear_47 : decode prog_14_method_68_code 47 = .ok (.iload_n 2, 1) := by decide +kernel
theorem d_M_goNear_48 : decode prog_14_method_68_code 48 = .ok (.aload_n 0, 1) := by decide +kernel
theorem d_M_goNear_49 : decode prog_14_method_68_code 49 = .ok (.getfield 386, 3) := by decide +kernel
theorem d_M_goNear_52 : decode prog_14_method_68_code 52 = .ok (.if_icmp .le 4, 3) := by decide +kernel
theorem d_M_goNear_55 : decode prog_14_method_68_code 55 = .ok (.return_, 1) := by decide +kernel
theorem d_M_goNear_56 : decode prog_14_method_68_code 56 = .ok (.aload_n 0, 1) := by decide +kernel
theorem d_M_goNear_57 : decode prog_14_method_68_code 57 = .ok (.iload_n 3, 1) := by decide +kernel
theorem d_M_goNear_58 : decode prog_14_method_68_code 58 = .ok (.putfield 383, 3) := by decide +kernel
theorem d_M_goNear_61 : decode prog_14_method_68_code 61 = .ok (.aload_n 0, 1) := by decide +kernel
theorem d_M_goNear_62 : decode prog_14_method_68_code 62 = .ok (.iload_n 2, 1) := by decide +kernel
theorem d_M_goNear_63 : decode prog_14_method_68_code 63 = .ok (.putfield 386, 3) := by decide +kernel
theorem d_M_goNear_66 : decode prog_14_method_68_code 66 = .ok (.return_, 1) := by decide +kernel
theorem d_M_goNear_67 : decode prog_14_method_68_code 67 = .ok (.aload_n 0, 1) := by decide +kernel
theorem d_M_goNear_68 : decode prog_14_method_68_code 68 = .ok (.iload_n 1, 1) := by decide +kernel
theorem d_M_goNear_69 : decode prog_14_method_68_code 69 = .ok (.iconst 1, 1) := by decide +kernel
theorem d_M_goNear_70 : decode prog_14_method_68_code 70 = .ok (.iadd, 1) := by decide +kernel
theorem d_M_goNear_71 : decode prog_14_method_68_code 71 = .ok (.iload_n 2, 1) := by decide +kernel
theorem d_M_goNear_72 : decode prog_14_method_68_code 72 = .ok (.invokevirtual 389, 3) := by decide +kernel
theorem d_M_goNear_75 : decode prog_14_method_68_code 75 = .ok (.iconst 0, 1) := by decide +kernel
theorem d_M_goNear_76 : decode prog_14_method_68_code 76 = .ok (.istore_n 3, 1) := by decide +kernel
theorem d_M_goNear_77 : decode prog_14_method_68_code 77 = .ok (.iload_n 3, 1) := by decide +kernel
theorem d_M_goNear_78 : decode prog_14_method_68_code 78 = .ok (.aload_n 0, 1) := by decide +kernel
theorem d_M_goNear_79 : decode prog_14_method_68_code 79 = .ok (.getfield 161, 3) := by decide +kernel
theorem d_M_goNear_82 : decode prog_14_method_68_code 82 = .ok (.if_icmp .ge 49, 3) := by decide +kernel
theorem d_M_goNear_85 : decode prog_14_method_68_code 85 = .ok (.aload_n 0, 1) := by decide +kernel
theorem d_M_goNear_86 : decode prog_14_method_68_code 86 = .ok (.getfield 13, 3) := by decide +kernel
theorem d_M_goNear_89 : decode prog_14_method_68_code 89 = .ok (.iload_n 3, 1) := by decide +kernel
theorem d_M_goNear_90 : decode prog_14_method_68_code 90 = .ok (.iaload, 1) := by decide +kernel
theorem d_M_goNear_91 : decode prog_14_method_68_code 91 = .ok (.iload_n 1, 1) := by decide +kernel
theorem d_M_goNear_92 : decode prog_14_method_68_code 92 = .ok (.if_icmp .ne 33, 3) := by decide +kernel
theorem d_M_goNear_95 : decode prog_14_method_68_code 95 = .ok (.aload_n 0, 1) := by decide +kernel
theorem d_M_goNear_96 : decode prog_14_method_68_code 96 = .ok (.iload_n 3, 1) := by decide +kernel
theorem d_M_goNear_97 : decode prog_14_method_68_code 97 = .ok (.invokevirtual 187, 3) := by decide +kernel
theorem d_M_goNear_100 : decode prog_14_method_68_code 100 = .ok (.iconst (-1), 1) := by decide +kernel
theorem d_M_goNear_101 : decode prog_14_method_68_code 101 = .ok (.if_icmp .ne 12, 3) := by decide +kernel
theorem d_M_goNear_104 : decode prog_14_method_68_code 104 = .ok (.aload_n 0, 1) := by decide +kernel
theorem d_M_goNear_105 : decode prog_14_method_68_code 105 = .ok (.iload_n 1, 1) := by decide +kernel
theorem d_M_goNear_106 : decode prog_14_method_68_code 106 = .ok (.invokevirtual 193, 3) := by decide +kernel
theorem d_M_goNear_109 : decode prog_14_method_68_code 109 = .ok (.iconst (-1), 1) := by decide +kernel
theorem d_M_goNear_110 : decode prog_14_method_68_code 110 = .ok (.if_icmp .eq 15, 3) := by decide +kernel
theorem d_M_goNear_113 : decode prog_14_method_68_code 113 = .ok (.aload_n 0, 1) := by decide +kernel
theorem d_M_goNear_114 : decode prog_14_method_68_code 114 = .ok (.iload_n 1, 1) := by decide +kernel
theorem d_M_goNear_115 : decode prog_14_method_68_code 115 = .ok (.iconst 1, 1) := by decide +kernel
theorem d_M_goNear_116 : decode prog_14_method_68_code 116 = .ok (.iadd, 1) := by decide +kernel
theorem d_M_goNear_117 : decode prog_14_method_68_code 117 = .ok (.iload_n 2, 1) := by decide +kernel
theorem d_M_goNear_118 : decode prog_14_method_68_code 118 = .ok (.iconst 1, 1) := by decide +kernel
theorem d_M_goNear_119 : decode prog_14_method_68_code 119 = .ok (.iload_n 3, 1) := by decide +kernel
theorem d_M_goNear_120 : decode prog_14_method_68_code 120 = .ok (.ishl, 1) := by decide +kernel
theorem d_M_goNear_121 : decode prog_14_method_68_code 121 = .ok (.ior, 1) := by decide +kernel
theorem d_M_goNear_122 : decode prog_14_method_68_code 122 = .ok (.invokevirtual 389, 3) := by decide +kernel
theorem d_M_goNear_125 : decode prog_14_method_68_code 125 = .ok (.iinc 3 1, 3) := by decide +kernel
theorem d_M_goNear_128 : decode prog_14_method_68_code 128 = .ok (.goto (-51), 3) := by decide +kernel
theorem d_M_goNear_131 : decode prog_14_method_68_code 131 = .ok (.return_, 1) := by decide +kernel
theorem d_M_near_0 : decode prog_14_method_69_code 0 = .ok (.aload_n 0, 1) := by decide +kernel
theorem d_M_near_1 : decode prog_14_method_69_code 1 = .ok (.iconst 0, 1) := by decide +kernel
theorem d_M_near_2 : decode prog_14_method_69_code 2 = .ok (.putfield 148, 3) := by decide +kernel
theorem d_M_near_5 : decode prog_14_method_69_code 5 = .ok (.aload_n 0, 1) := by decide +kernel
theorem d_M_near_6 : decode prog_14_method_69_code 6 = .ok (.iconst (-1), 1) := by decide +kernel
theorem d_M_near_7 : decode prog_14_method_69_code 7 = .ok (.putfield 383, 3) := by decide +kernel
theorem d_M_near_10 : decode prog_14_method_69_code 10 = .ok (.aload_n 0, 1) := by decide +kernel
theorem d_M_near_11 : decode prog_14_method_69_code 11 = .ok (.iconst 0, 1) := by decide +kernel
theorem d_M_near_12 : decode prog_14_method_69_code 12 = .ok (.iconst 0, 1) := by decide +kernel
theorem d_M_near_13 : decode prog_14_method_69_code 13 = .ok (.invokevirtual 389, 3) := by decide +kernel
theorem d_M_near_16 : decode prog_14_method_69_code 16 = .ok (.aload_n 0, 1) := by decide +kernel
theorem d_M_near_17 : decode prog_14_method_69_code 17 = .ok (.iconst 0, 1) := by decide +kernel
theorem d_M_near_18 : decode prog_14_method_69_code 18 = .ok (.putfield 170, 3) := by decide +kernel
theorem d_M_near_21 : decode prog_14_method_69_code 21 = .ok (.aload_n 0, 1) := by decide +kernel
theorem d_M_near_22 : decode prog_14_method_69_code 22 = .ok (.aload_n 0, 1) := by decide +kernel
theorem d_M_near_23 : decode prog_14_method_69_code 23 = .ok (.getfield 386, 3) := by decide +kernel
theorem d_M_near_26 : decode prog_14_method_69_code 26 = .ok (.invokevirtual 309, 3) := by decide +kernel
theorem d_M_near_29 : decode prog_14_method_69_code 29 = .ok (.aload_n 0, 1) := by decide +kernel
theorem d_M_near_30 : decode prog_14_method_69_code 30 = .ok (.getfield 383, 3) := by decide +kernel
theorem d_M_near_33 : decode prog_14_method_69_code 33 = .ok (.ireturn, 1) := by decide +kernel
theorem d_M_share_0 : decode prog_14_method_70_code 0 = .ok (.iload_n 1, 1) := by decide +kernel
theorem d_M_share_1 : decode prog_14_method_70_code 1 = .ok (.aload_n 0, 1) := by decide +kernel
theorem d_M_share_2 : decode prog_14_method_70_code 2 = .ok (.getfield 158, 3) := by decide +kernel
theorem d_M_share_5 : decode prog_14_method_70_code 5 = .ok (.if_icmp .ne 31, 3) := by decide +kernel
theorem d_M_share_8 : decode prog_14_method_70_code 8 = .ok (.iload_n 2, 1) := by decide +kernel
theorem d_M_share_9 : decode prog_14_method_70_code 9 = .ok (.ifCond .le 5, 3) := by decide +kernel
theorem d_M_share_12 : decode prog_14_method_70_code 12 = .ok (.iconst 0, 1) := by decide +kernel
theorem d_M_share_13 : decode prog_14_method_70_code 13 = .ok (.ireturn, 1) := by decide +kernel
theorem d_M_share_14 : decode prog_14_method_70_code 14 = .ok (.aload_n 0, 1) := by decide +kernel
theorem d_M_share_15 : decode prog_14_method_70_code 15 = .ok (.iconst 0, 1) := by decide +kernel
theorem d_M_share_16 : decode prog_14_method_70_code 16 = .ok (.putfield 173, 3) := by decide +kernel
theorem d_M_share_19 : decode prog_14_method_70_code 19 = .ok (.aload_n 0, 1) := by decide +kernel
theorem d_M_share_20 : decode prog_14_method_70_code 20 = .ok (.iconst 0, 1) := by decide +kernel
theorem d_M_share_21 : decode prog_14_method_70_code 21 = .ok (.putfield 361, 3) := by decide +kernel
theorem d_M_share_24 : decode prog_14_method_70_code 24 = .ok (.aload_n 0, 1) := by decide +kernel
theorem d_M_share_25 : decode prog_14_method_70_code 25 = .ok (.iconst 0, 1) := by decide +kernel
theorem d_M_share_26 : decode prog_14_method_70_code 26 = .ok (.iconst 0, 1) := by decide +kernel
theorem d_M_share_27 : decode prog_14_method_70_code 27 = .ok (.iconst 1, 1) := by decide +kernel
theorem d_M_share_28 : decode prog_14_method_70_code 28 = .ok (.invokevirtual 367, 3) := by decide +kernel
theorem d_M_share_31 : decode prog_14_method_70_code 31 = .ok (.aload_n 0, 1) := by decide +kernel
theorem d_M_share_32 : decode prog_14_method_70_code 32 = .ok (.getfield 361, 3) := by decide +kernel
theorem d_M_share_35 : decode prog_14_method_70_code 35 = .ok (.ireturn, 1) := by decide +kernel
theorem d_M_share_36 : decode prog_14_method_70_code 36 = .ok (.iconst 0, 1) := by decide +kernel
theorem d_M_share_37 : decode prog_14_method_70_code 37 = .ok (.istore_n 3, 1) := by decide +kernel
theorem d_M_share_38 : decode prog_14_method_70_code 38 = .ok (.iload_n 3, 1) := by decide +kernel
theorem d_M_share_39 : decode prog_14_method_70_code 39 = .ok (.iload_n 2, 1) := by decide +kernel
theorem d_M_share_40 : decode prog_14_method_70_code 40 = .ok (.if_icmp .gt 84, 3) := by decide +kernel
theorem d_M_share_43 : decode prog_14_method_70_code 43 = .ok (.iload_n 3, 1) := by decide +kernel
theorem d_M_share_44 : decode prog_14_method_70_code 44 = .ok (.ifCond .le 28, 3) := by decide +kernel
theorem d_M_share_47 : decode prog_14_method_70_code 47 = .ok (.aload_n 0, 1) := by decide +kernel
theorem d_M_share_48 : decode prog_14_method_70_code 48 = .ok (.getfield 49, 3) := by decide +kernel
theorem d_M_share_51 : decode prog_14_method_70_code 51 = .ok (.iload_n 1, 1) := by decide +kernel
theorem d_M_share_52 : decode prog_14_method_70_code 52 = .ok (.baload, 1) := by decide +kernel
theorem d_M_share_53 : decode prog_14_method_70_code 53 = .ok (.ifCond .eq 71, 3) := by decide +kernel
theorem d_M_share_56 : decode prog_14_method_70_code 56 = .ok (.aload_n 0, 1) := by decide +kernel
theorem d_M_share_57 : decode prog_14_method_70_code 57 = .ok (.getfield 53, 3) := by decide +kernel
theorem d_M_share_60 : decode prog_14_method_70_code 60 = .ok (.iload_n 1, 1) := by decide +kernel
theorem d_M_share_61 : decode prog_14_method_70_code 61 = .ok (.iaload, 1) := by decide +kernel
theorem d_M_share_62 : decode prog_14_method_70_code 62 = .ok (.iload_n 3, 1) := by decide +kernel
theorem d_M_share_63 : decode prog_14_method_70_code 63 = .ok (.iadd, 1) := by decide +kernel
theorem d_M_share_64 : decode prog_14_method_70_code 64 = .ok (.bipush 8, 2) := by decide +kernel
theorem d_M_share_66 : decode prog_14_method_70_code 66 = .ok (.if_icmp .le 6, 3) := by decide +kernel
theorem d_M_share_69 : decode prog_14_method_70_code 69 = .ok (.goto 55, 3) := by decide +kernel
theorem d_M_share_72 : decode prog_14_method_70_code 72 = .ok (.aload_n 0, 1) := by decide +kernel
theorem d_M_share_73 : decode prog_14_method_70_code 73 = .ok (.getfield 145, 3) := by decide +kernel
theorem d_M_share_76 : decode prog_14_method_70_code 76 = .ok (.iload_n 1, 1) := by decide +kernel
theorem d_M_share_77 : decode prog_14_method_70_code 77 = .ok (.iload_n 3, 1) := by decide +kernel
theorem d_M_share_78 : decode prog_14_method_70_code 78 = .ok (.iastore, 1) := by decide +kernel
theorem d_M_share_79 : decode prog_14_method_70_code 79 = .ok (.aload_n 0, 1) := by decide +kernel
theorem d_M_share_80 : decode prog_14_method_70_code 80 = .ok (.getfield 53, 3) := by decide +kernel
theorem d_M_share_83 : decode prog_14_method_70_code 83 = .ok (.iload_n 1, 1) := by decide +kernel
theorem d_M_share_84 : decode prog_14_method_70_code 84 = .ok (.dup2, 1) := by decide +kernel
theorem d_M_share_85 : decode prog_14_method_70_code 85 = .ok (.iaload, 1) := by decide +kernel
theorem d_M_share_86 : decode prog_14_method_70_code 86 = .ok (.iload_n 3, 1) := by decide +kernel
theorem d_M_share_87 : decode prog_14_method_70_code 87 = .ok (.iadd, 1) := by decide +kernel
theorem d_M_share_88 : decode prog_14_method_70_code 88 = .ok (.iastore, 1) := by decide +kernel
theorem d_M_share_89 : decode prog_14_method_70_code 89 = .ok (.aload_n 0, 1) := by decide +kernel
theorem d_M_share_90 : decode prog_14_method_70_code 90 = .ok (.iload_n 1, 1) := by decide +kernel
theorem d_M_share_91 : decode prog_14_method_70_code 91 = .ok (.iconst 1, 1) := by decide +kernel
theorem d_M_share_92 : decode prog_14_method_70_code 92 = .ok (.iadd, 1) := by decide +kernel
theorem d_M_share_93 : decode prog_14_method_70_code 93 = .ok (.iload_n 2, 1) := by decide +kernel
theorem d_M_share_94 : decode prog_14_method_70_code 94 = .ok (.iload_n 3, 1) := by decide +kernel
theorem d_M_share_95 : decode prog_14_method_70_code 95 = .ok (.isub, 1) := by decide +kernel
theorem d_M_share_96 : decode prog_14_method_70_code 96 = .ok (.invokevirtual 393, 3) := by decide +kernel
theorem d_M_share_99 : decode prog_14_method_70_code 99 = .ok (.istore 4, 2) := by decide +kernel
theorem d_M_share_101 : decode prog_14_method_70_code 101 = .ok (.aload_n 0, 1) := by decide +kernel
theorem d_M_share_102 : decode prog_14_method_70_code 102 = .ok (.getfield 53, 3) := by decide +kernel
theorem d_M_share_105 : decode prog_14_method_70_code 105 = .ok (.iload_n 1, 1) := by decide +kernel
theorem d_M_share_106 : decode prog_14_method_70_code 106 = .ok (.dup2, 1) := by decide +kernel
theorem d_M_share_107 : decode prog_14_method_70_code 107 = .ok (.iaload, 1) := by decide +kernel
theorem d_M_share_108 : decode prog_14_method_70_code 108 = .ok (.iload_n 3, 1) := by decide +kernel
theorem d_M_share_109 : decode prog_14_method_70_code 109 = .ok (.isub, 1) := by decide +kernel
theorem d_M_share_110 : decode prog_14_method_70_code 110 = .ok (.iastore, 1) := by decide +kernel
theorem d_M_share_111 : decode prog_14_method_70_code 111 = .ok (.iload 4, 2) := by decide +kernel
theorem d_M_share_113 : decode prog_14_method_70_code 113 = .ok (.ifCond .eq 5, 3) := by decide +kernel
theorem d_M_share_116 : decode prog_14_method_70_code 116 = .ok (.iconst 1, 1) := by decide +kernel
theorem d_M_share_117 : decode prog_14_method_70_code 117 = .ok (.ireturn, 1) := by decide +kernel
theorem d_M_share_118 : decode prog_14_method_70_code 118 = .ok (.iinc 3 1, 3) := by decide +kernel
theorem d_M_share_121 : decode prog_14_method_70_code 121 = .ok (.goto (-83), 3) := by decide +kernel
theorem d_M_share_124 : decode prog_14_method_70_code 124 = .ok (.iconst 0, 1) := by decide +kernel
theorem d_M_share_125 : decode prog_14_method_70_code 125 = .ok (.ireturn, 1) := by decide +kernel
theorem d_M_places_0 : decode prog_14_method_71_code 0 = .ok (.aload_n 0, 1) := by decide +kernel
theorem d_M_places_1 : decode prog_14_method_71_code 1 = .ok (.iconst 0, 1) := by decide +kernel
theorem d_M_places_2 : decode prog_14_method_71_code 2 = .ok (.putfield 148, 3) := by decide +kernel
theorem d_M_places_5 : decode prog_14_method_71_code 5 = .ok (.iconst 0, 1) := by decide +kernel
theorem d_M_places_6 : decode prog_14_method_71_code 6 = .ok (.istore_n 1, 1) := by decide +kernel
theorem d_M_places_7 : decode prog_14_method_71_code 7 = .ok (.iload_n 1, 1) := by decide +kernel
theorem d_M_places_8 : decode prog_14_method_71_code 8 = .ok (.iconst 4, 1) := by decide +kernel
theorem d_M_places_9 : decode prog_14_method_71_code 9 = .ok (.if_icmp .ge 61, 3) := by decide +kernel
theorem d_M_places_12 : decode prog_14_method_71_code 12 = .ok (.aload_n 0, 1) := by decide +kernel
theorem d_M_places_13 : decode prog_14_method_71_code 13 = .ok (.iconst 0, 1) := by decide +kernel
theorem d_M_places_14 : decode prog_14_method_71_code 14 = .ok (.iload_n 1, 1) := by decide +kernel
theorem d_M_places_15 : decode prog_14_method_71_code 15 = .ok (.invokevirtual 393, 3) := by decide +kernel
theorem d_M_places_18 : decode prog_14_method_71_code 18 = .ok (.istore_n 2, 1) := by decide +kernel
theorem d_M_places_19 : decode prog_14_method_71_code 19 = .ok (.aload_n 0, 1) := by decide +kernel
theorem d_M_places_20 : decode prog_14_method_71_code 20 = .ok (.iconst 0, 1) := by decide +kernel
theorem d_M_places_21 : decode prog_14_method_71_code 21 = .ok (.putfield 173, 3) := by decide +kernel
theorem d_M_places_24 : decode prog_14_method_71_code 24 = .ok (.iload_n 2, 1) := by decide +kernel
theorem d_M_places_25 : decode prog_14_method_71_code 25 = .ok (.ifCond .ne 6, 3) := by decide +kernel
theorem d_M_places_28 : decode prog_14_method_71_code 28 = .ok (.goto 36, 3) := by decide +kernel
theorem d_M_places_31 : decode prog_14_method_71_code 31 = .ok (.aload_n 0, 1) := by decide +kernel
theorem d_M_places_32 : decode prog_14_method_71_code 32 = .ok (.iconst 0, 1) := by decide +kernel
theorem d_M_places_33 : decode prog_14_method_71_code 33 = .ok (.putfield 170, 3) := by decide +kernel
theorem d_M_places_36 : decode prog_14_method_71_code 36 = .ok (.iconst 0, 1) := by decide +kernel
theorem d_M_places_37 : decode prog_14_method_71_code 37 = .ok (.istore_n 3, 1) := by decide +kernel
theorem d_M_places_38 : decode prog_14_method_71_code 38 = .ok (.iload_n 3, 1) := by decide +kernel
theorem d_M_places_39 : decode prog_14_method_71_code 39 = .ok (.aload_n 0, 1) := by decide +kernel
theorem d_M_places_40 : decode prog_14_method_71_code 40 = .ok (.getfield 158, 3) := by decide +kernel
theorem d_M_places_43 : decode prog_14_method_71_code 43 = .ok (.if_icmp .ge 19, 3) := by decide +kernel
theorem d_M_places_46 : decode prog_14_method_71_code 46 = .ok (.aload_n 0, 1) := by decide +kernel
theorem d_M_places_47 : decode prog_14_method_71_code 47 = .ok (.aload_n 0, 1) := by decide +kernel
theorem d_M_places_48 : decode prog_14_method_71_code 48 = .ok (.getfield 145, 3) := by decide +kernel
theorem d_M_places_51 : decode prog_14_method_71_code 51 = .ok (.iload_n 3, 1) := by decide +kernel
theorem d_M_places_52 : decode prog_14_method_71_code 52 = .ok (.iaload, 1) := by decide +kernel
theorem d_M_places_53 : decode prog_14_method_71_code 53 = .ok (.invokevirtual 309, 3) := by decide +kernel
theorem d_M_places_56 : decode prog_14_method_71_code 56 = .ok (.iinc 3 1, 3) := by decide +kernel
theorem d_M_places_59 : decode prog_14_method_71_code 59 = .ok (.goto (-21), 3) := by decide +kernel
theorem d_M_places_62 : decode prog_14_method_71_code 62 = .ok (.iload_n 1, 1) := by decide +kernel
theorem d_M_places_63 : decode prog_14_method_71_code 63 = .ok (.ireturn, 1) := by decide +kernel
theorem d_M_places_64 : decode prog_14_method_71_code 64 = .ok (.iinc 1 1, 3) := by decide +kernel
theorem d_M_places_67 : decode prog_14_method_71_code 67 = .ok (.goto (-60), 3) := by decide +kernel
theorem d_M_places_70 : decode prog_14_method_71_code 70 = .ok (.bipush (-2), 2) := by decide +kernel
theorem d_M_places_72 : decode prog_14_method_71_code 72 = .ok (.ireturn, 1) := by decide +kernel
theorem d_M_lie_0 : decode prog_14_method_72_code 0 = .ok (.iload_n 2, 1) := by decide +kernel
theorem d_M_lie_1 : decode prog_14_method_72_code 1 = .ok (.iload_n 3, 1) := by decide +kernel
theorem d_M_lie_2 : decode prog_14_method_72_code 2 = .ok (.if_icmp .ne 61, 3) := by decide +kernel
theorem d_M_lie_5 : decode prog_14_method_72_code 5 = .ok (.aload_n 0, 1) := by decide +kernel
theorem d_M_lie_6 : decode prog_14_method_72_code 6 = .ok (.iload_n 3, 1) := by decide +kernel
theorem d_M_lie_7 : decode prog_14_method_72_code 7 = .ok (.putfield 346, 3) := by decide +kernel
theorem d_M_lie_10 : decode prog_14_method_72_code 10 = .ok (.aload_n 0, 1) := by decide +kernel
theorem d_M_lie_11 : decode prog_14_method_72_code 11 = .ok (.invokevirtual 358, 3) := by decide +kernel
theorem d_M_lie_14 : decode prog_14_method_72_code 14 = .ok (.istore 4, 2) := by decide +kernel
theorem d_M_lie_16 : decode prog_14_method_72_code 16 = .ok (.iload 4, 2) := by decide +kernel
theorem d_M_lie_18 : decode prog_14_method_72_code 18 = .ok (.ifCond .lt 43, 3) := by decide +kernel
theorem d_M_lie_21 : decode prog_14_method_72_code 21 = .ok (.aload_n 0, 1) := by decide +kernel
theorem d_M_lie_22 : decode prog_14_method_72_code 22 = .ok (.iload 4, 2) := by decide +kernel
theorem d_M_lie_24 : decode prog_14_method_72_code 24 = .ok (.iload_n 1, 1) := by decide +kernel
theorem d_M_lie_25 : decode prog_14_method_72_code 25 = .ok (.invokevirtual 315, 3) := by decide +kernel
theorem d_M_lie_28 : decode prog_14_method_72_code 28 = .ok (.iconst (-1), 1) := by decide +kernel
theorem d_M_lie_29 : decode prog_14_method_72_code 29 = .ok (.if_icmp .eq 32, 3) := by decide +kernel
theorem d_M_lie_32 : decode prog_14_method_72_code 32 = .ok (.aload_n 0, 1) := by decide +kernel
theorem d_M_lie_33 : decode prog_14_method_72_code 33 = .ok (.iload 4, 2) := by decide +kernel
theorem d_M_lie_35 : decode prog_14_method_72_code 35 = .ok (.iload_n 1, 1) := by decide +kernel
theorem d_M_lie_36 : decode prog_14_method_72_code 36 = .ok (.invokevirtual 318, 3) := by decide +kernel
theorem d_M_lie_39 : decode prog_14_method_72_code 39 = .ok (.iconst (-1), 1) := by decide +kernel
theorem d_M_lie_40 : decode prog_14_method_72_code 40 = .ok (.if_icmp .eq 21, 3) := by decide +kernel
theorem d_M_lie_43 : decode prog_14_method_72_code 43 = .ok (.aload_n 0, 1) := by decide +kernel
theorem d_M_lie_44 : decode prog_14_method_72_code 44 = .ok (.iload 4, 2) := by decide +kernel
theorem d_M_lie_46 : decode prog_14_method_72_code 46 = .ok (.iload_n 1, 1) := by decide +kernel
theorem d_M_lie_47 : decode prog_14_method_72_code 47 = .ok (.invokevirtual 318, 3) := by decide +kernel
theorem d_M_lie_50 : decode prog_14_method_72_code 50 = .ok (.aload_n 0, 1) := by decide +kernel
theorem d_M_lie_51 : decode prog_14_method_72_code 51 = .ok (.getfield 396, 3) := by decide +kernel
theorem d_M_lie_54 : decode prog_14_method_72_code 54 = .ok (.if_icmp .ge 7, 3) := by decide +kernel
theorem d_M_lie_57 : decode prog_14_method_72_code 57 = .ok (.iconst 1, 1) := by decide +kernel
theorem d_M_lie_58 : decode prog_14_method_72_code 58 = .ok (.goto 4, 3) := by decide +kernel
theorem d_M_lie_61 : decode prog_14_method_72_code 61 = .ok (.iconst 0, 1) := by decide +kernel
theorem d_M_lie_62 : decode prog_14_method_72_code 62 = .ok (.ireturn, 1) := by decide +kernel
theorem d_M_lie_63 : decode prog_14_method_72_code 63 = .ok (.iconst 0, 1) := by decide +kernel
theorem d_M_lie_64 : decode prog_14_method_72_code 64 = .ok (.istore 4, 2) := by decide +kernel
theorem d_M_lie_66 : decode prog_14_method_72_code 66 = .ok (.iload 4, 2) := by decide +kernel
theorem d_M_lie_68 : decode prog_14_method_72_code 68 = .ok (.aload_n 0, 1) := by decide +kernel
theorem d_M_lie_69 : decode prog_14_method_72_code 69 = .ok (.getfield 161, 3) := by decide +kernel
theorem d_M_lie_72 : decode prog_14_method_72_code 72 = .ok (.if_icmp .ge 96, 3) := by decide +kernel
theorem d_M_lie_75 : decode prog_14_method_72_code 75 = .ok (.aload_n 0, 1) := by decide +kernel
theorem d_M_lie_76 : decode prog_14_method_72_code 76 = .ok (.getfield 13, 3) := by decide +kernel
theorem d_M_lie_79 : decode prog_14_method_72_code 79 = .ok (.iload 4, 2) := by decide +kernel
