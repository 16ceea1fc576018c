theorem d_W_init_0 : decode prog_12_method_1_code 0 = .ok (.aload_n 0, 1) := by decide +kernel
theorem d_W_init_1 : decode prog_12_method_1_code 1 = .ok (.invokespecial 3, 3) := by decide +kernel
theorem d_W_init_4 : decode prog_12_method_1_code 4 = .ok (.aload_n 0, 1) := by decide +kernel
theorem d_W_init_5 : decode prog_12_method_1_code 5 = .ok (.bipush 20, 2) := by decide +kernel
theorem d_W_init_7 : decode prog_12_method_1_code 7 = .ok (.newarray .int, 2) := by decide +kernel
theorem d_W_init_9 : decode prog_12_method_1_code 9 = .ok (.putfield 11, 3) := by decide +kernel
theorem d_W_init_12 : decode prog_12_method_1_code 12 = .ok (.aload_n 0, 1) := by decide +kernel
theorem d_W_init_13 : decode prog_12_method_1_code 13 = .ok (.bipush 20, 2) := by decide +kernel
theorem d_W_init_15 : decode prog_12_method_1_code 15 = .ok (.newarray .int, 2) := by decide +kernel
theorem d_W_init_17 : decode prog_12_method_1_code 17 = .ok (.putfield 17, 3) := by decide +kernel
theorem d_W_init_20 : decode prog_12_method_1_code 20 = .ok (.aload_n 0, 1) := by decide +kernel
theorem d_W_init_21 : decode prog_12_method_1_code 21 = .ok (.bipush 64, 2) := by decide +kernel
theorem d_W_init_23 : decode prog_12_method_1_code 23 = .ok (.newarray .int, 2) := by decide +kernel
theorem d_W_init_25 : decode prog_12_method_1_code 25 = .ok (.putfield 20, 3) := by decide +kernel
theorem d_W_init_28 : decode prog_12_method_1_code 28 = .ok (.aload_n 0, 1) := by decide +kernel
theorem d_W_init_29 : decode prog_12_method_1_code 29 = .ok (.aload_n 1, 1) := by decide +kernel
theorem d_W_init_30 : decode prog_12_method_1_code 30 = .ok (.putfield 23, 3) := by decide +kernel
theorem d_W_init_33 : decode prog_12_method_1_code 33 = .ok (.aload_n 0, 1) := by decide +kernel
theorem d_W_init_34 : decode prog_12_method_1_code 34 = .ok (.aload_n 2, 1) := by decide +kernel
theorem d_W_init_35 : decode prog_12_method_1_code 35 = .ok (.putfield 27, 3) := by decide +kernel
theorem d_W_init_38 : decode prog_12_method_1_code 38 = .ok (.aload_n 0, 1) := by decide +kernel
theorem d_W_init_39 : decode prog_12_method_1_code 39 = .ok (.aload_n 3, 1) := by decide +kernel
theorem d_W_init_40 : decode prog_12_method_1_code 40 = .ok (.putfield 31, 3) := by decide +kernel
theorem d_W_init_43 : decode prog_12_method_1_code 43 = .ok (.aload_n 0, 1) := by decide +kernel
theorem d_W_init_44 : decode prog_12_method_1_code 44 = .ok (.aload 4, 2) := by decide +kernel
theorem d_W_init_46 : decode prog_12_method_1_code 46 = .ok (.putfield 35, 3) := by decide +kernel
theorem d_W_init_49 : decode prog_12_method_1_code 49 = .ok (.return_, 1) := by decide +kernel
theorem d_W_pickLive_0 : decode prog_12_method_3_code 0 = .ok (.iconst 0, 1) := by decide +kernel
theorem d_W_pickLive_1 : decode prog_12_method_3_code 1 = .ok (.istore_n 1, 1) := by decide +kernel
theorem d_W_pickLive_2 : decode prog_12_method_3_code 2 = .ok (.iconst 0, 1) := by decide +kernel
theorem d_W_pickLive_3 : decode prog_12_method_3_code 3 = .ok (.istore_n 2, 1) := by decide +kernel
theorem d_W_pickLive_4 : decode prog_12_method_3_code 4 = .ok (.iload_n 2, 1) := by decide +kernel
theorem d_W_pickLive_5 : decode prog_12_method_3_code 5 = .ok (.aload_n 0, 1) := by decide +kernel
theorem d_W_pickLive_6 : decode prog_12_method_3_code 6 = .ok (.getfield 31, 3) := by decide +kernel
theorem d_W_pickLive_9 : decode prog_12_method_3_code 9 = .ok (.getfield 66, 3) := by decide +kernel
theorem d_W_pickLive_12 : decode prog_12_method_3_code 12 = .ok (.if_icmp .ge 47, 3) := by decide +kernel
theorem d_W_pickLive_15 : decode prog_12_method_3_code 15 = .ok (.iconst 0, 1) := by decide +kernel
theorem d_W_pickLive_16 : decode prog_12_method_3_code 16 = .ok (.istore_n 3, 1) := by decide +kernel
theorem d_W_pickLive_17 : decode prog_12_method_3_code 17 = .ok (.iload_n 3, 1) := by decide +kernel
theorem d_W_pickLive_18 : decode prog_12_method_3_code 18 = .ok (.aload_n 0, 1) := by decide +kernel
theorem d_W_pickLive_19 : decode prog_12_method_3_code 19 = .ok (.getfield 31, 3) := by decide +kernel
theorem d_W_pickLive_22 : decode prog_12_method_3_code 22 = .ok (.getfield 69, 3) := by decide +kernel
theorem d_W_pickLive_25 : decode prog_12_method_3_code 25 = .ok (.iload_n 2, 1) := by decide +kernel
theorem d_W_pickLive_26 : decode prog_12_method_3_code 26 = .ok (.iaload, 1) := by decide +kernel
theorem d_W_pickLive_27 : decode prog_12_method_3_code 27 = .ok (.if_icmp .ge 26, 3) := by decide +kernel
theorem d_W_pickLive_30 : decode prog_12_method_3_code 30 = .ok (.iload_n 1, 1) := by decide +kernel
theorem d_W_pickLive_31 : decode prog_12_method_3_code 31 = .ok (.aload_n 0, 1) := by decide +kernel
theorem d_W_pickLive_32 : decode prog_12_method_3_code 32 = .ok (.getfield 31, 3) := by decide +kernel
theorem d_W_pickLive_35 : decode prog_12_method_3_code 35 = .ok (.getfield 72, 3) := by decide +kernel
theorem d_W_pickLive_38 : decode prog_12_method_3_code 38 = .ok (.iload_n 2, 1) := by decide +kernel
theorem d_W_pickLive_39 : decode prog_12_method_3_code 39 = .ok (.bipush 8, 2) := by decide +kernel
theorem d_W_pickLive_41 : decode prog_12_method_3_code 41 = .ok (.imul, 1) := by decide +kernel
theorem d_W_pickLive_42 : decode prog_12_method_3_code 42 = .ok (.iload_n 3, 1) := by decide +kernel
theorem d_W_pickLive_43 : decode prog_12_method_3_code 43 = .ok (.iadd, 1) := by decide +kernel
theorem d_W_pickLive_44 : decode prog_12_method_3_code 44 = .ok (.iaload, 1) := by decide +kernel
theorem d_W_pickLive_45 : decode prog_12_method_3_code 45 = .ok (.ior, 1) := by decide +kernel
theorem d_W_pickLive_46 : decode prog_12_method_3_code 46 = .ok (.istore_n 1, 1) := by decide +kernel
theorem d_W_pickLive_47 : decode prog_12_method_3_code 47 = .ok (.iinc 3 1, 3) := by decide +kernel
theorem d_W_pickLive_50 : decode prog_12_method_3_code 50 = .ok (.goto (-33), 3) := by decide +kernel
theorem d_W_pickLive_53 : decode prog_12_method_3_code 53 = .ok (.iinc 2 1, 3) := by decide +kernel
theorem d_W_pickLive_56 : decode prog_12_method_3_code 56 = .ok (.goto (-52), 3) := by decide +kernel
theorem d_W_pickLive_59 : decode prog_12_method_3_code 59 = .ok (.aload_n 0, 1) := by decide +kernel
theorem d_W_pickLive_60 : decode prog_12_method_3_code 60 = .ok (.iconst 0, 1) := by decide +kernel
theorem d_W_pickLive_61 : decode prog_12_method_3_code 61 = .ok (.putfield 75, 3) := by decide +kernel
theorem d_W_pickLive_64 : decode prog_12_method_3_code 64 = .ok (.aload_n 0, 1) := by decide +kernel
theorem d_W_pickLive_65 : decode prog_12_method_3_code 65 = .ok (.getfield 23, 3) := by decide +kernel
theorem d_W_pickLive_68 : decode prog_12_method_3_code 68 = .ok (.getfield 78, 3) := by decide +kernel
theorem d_W_pickLive_71 : decode prog_12_method_3_code 71 = .ok (.iconst 1, 1) := by decide +kernel
theorem d_W_pickLive_72 : decode prog_12_method_3_code 72 = .ok (.isub, 1) := by decide +kernel
theorem d_W_pickLive_73 : decode prog_12_method_3_code 73 = .ok (.istore_n 2, 1) := by decide +kernel
theorem d_W_pickLive_74 : decode prog_12_method_3_code 74 = .ok (.iload_n 2, 1) := by decide +kernel
theorem d_W_pickLive_75 : decode prog_12_method_3_code 75 = .ok (.ifCond .lt 112, 3) := by decide +kernel
theorem d_W_pickLive_78 : decode prog_12_method_3_code 78 = .ok (.aload_n 0, 1) := by decide +kernel
theorem d_W_pickLive_79 : decode prog_12_method_3_code 79 = .ok (.getfield 23, 3) := by decide +kernel
theorem d_W_pickLive_82 : decode prog_12_method_3_code 82 = .ok (.getfield 79, 3) := by decide +kernel
theorem d_W_pickLive_85 : decode prog_12_method_3_code 85 = .ok (.iload_n 2, 1) := by decide +kernel
theorem d_W_pickLive_86 : decode prog_12_method_3_code 86 = .ok (.iaload, 1) := by decide +kernel
theorem d_W_pickLive_87 : decode prog_12_method_3_code 87 = .ok (.istore_n 3, 1) := by decide +kernel
theorem d_W_pickLive_88 : decode prog_12_method_3_code 88 = .ok (.aload_n 0, 1) := by decide +kernel
theorem d_W_pickLive_89 : decode prog_12_method_3_code 89 = .ok (.getfield 27, 3) := by decide +kernel
theorem d_W_pickLive_92 : decode prog_12_method_3_code 92 = .ok (.iload_n 3, 1) := by decide +kernel
theorem d_W_pickLive_93 : decode prog_12_method_3_code 93 = .ok (.invokevirtual 82, 3) := by decide +kernel
theorem d_W_pickLive_96 : decode prog_12_method_3_code 96 = .ok (.istore 4, 2) := by decide +kernel
theorem d_W_pickLive_98 : decode prog_12_method_3_code 98 = .ok (.iload 4, 2) := by decide +kernel
theorem d_W_pickLive_100 : decode prog_12_method_3_code 100 = .ok (.ifCond .eq 19, 3) := by decide +kernel
theorem d_W_pickLive_103 : decode prog_12_method_3_code 103 = .ok (.aload_n 0, 1) := by decide +kernel
theorem d_W_pickLive_104 : decode prog_12_method_3_code 104 = .ok (.getfield 27, 3) := by decide +kernel
theorem d_W_pickLive_107 : decode prog_12_method_3_code 107 = .ok (.getfield 88, 3) := by decide +kernel
theorem d_W_pickLive_110 : decode prog_12_method_3_code 110 = .ok (.iload_n 2, 1) := by decide +kernel
theorem d_W_pickLive_111 : decode prog_12_method_3_code 111 = .ok (.iaload, 1) := by decide +kernel
theorem d_W_pickLive_112 : decode prog_12_method_3_code 112 = .ok (.iconst (-1), 1) := by decide +kernel
theorem d_W_pickLive_113 : decode prog_12_method_3_code 113 = .ok (.if_icmp .eq 68, 3) := by decide +kernel
theorem d_W_pickLive_116 : decode prog_12_method_3_code 116 = .ok (.goto 11, 3) := by decide +kernel
theorem d_W_pickLive_119 : decode prog_12_method_3_code 119 = .ok (.iload_n 1, 1) := by decide +kernel
theorem d_W_pickLive_120 : decode prog_12_method_3_code 120 = .ok (.iload_n 2, 1) := by decide +kernel
theorem d_W_pickLive_121 : decode prog_12_method_3_code 121 = .ok (.iushr, 1) := by decide +kernel
theorem d_W_pickLive_122 : decode prog_12_method_3_code 122 = .ok (.iconst 1, 1) := by decide +kernel
theorem d_W_pickLive_123 : decode prog_12_method_3_code 123 = .ok (.iand, 1) := by decide +kernel
theorem d_W_pickLive_124 : decode prog_12_method_3_code 124 = .ok (.ifCond .eq 57, 3) := by decide +kernel
theorem d_W_pickLive_127 : decode prog_12_method_3_code 127 = .ok (.aload_n 0, 1) := by decide +kernel
theorem d_W_pickLive_128 : decode prog_12_method_3_code 128 = .ok (.getfield 11, 3) := by decide +kernel
theorem d_W_pickLive_131 : decode prog_12_method_3_code 131 = .ok (.aload_n 0, 1) := by decide +kernel
theorem d_W_pickLive_132 : decode prog_12_method_3_code 132 = .ok (.getfield 75, 3) := by decide +kernel
theorem d_W_pickLive_135 : decode prog_12_method_3_code 135 = .ok (.iload_n 2, 1) := by decide +kernel
theorem d_W_pickLive_136 : decode prog_12_method_3_code 136 = .ok (.iastore, 1) := by decide +kernel
theorem d_W_pickLive_137 : decode prog_12_method_3_code 137 = .ok (.aload_n 0, 1) := by decide +kernel
theorem d_W_pickLive_138 : decode prog_12_method_3_code 138 = .ok (.dup, 1) := by decide +kernel
theorem d_W_pickLive_139 : decode prog_12_method_3_code 139 = .ok (.getfield 75, 3) := by decide +kernel
theorem d_W_pickLive_142 : decode prog_12_method_3_code 142 = .ok (.iconst 1, 1) := by decide +kernel
theorem d_W_pickLive_143 : decode prog_12_method_3_code 143 = .ok (.iadd, 1) := by decide +kernel
theorem d_W_pickLive_144 : decode prog_12_method_3_code 144 = .ok (.putfield 75, 3) := by decide +kernel
theorem d_W_pickLive_147 : decode prog_12_method_3_code 147 = .ok (.aload_n 0, 1) := by decide +kernel
theorem d_W_pickLive_148 : decode prog_12_method_3_code 148 = .ok (.getfield 17, 3) := by decide +kernel
theorem d_W_pickLive_151 : decode prog_12_method_3_code 151 = .ok (.iload_n 2, 1) := by decide +kernel
theorem d_W_pickLive_152 : decode prog_12_method_3_code 152 = .ok (.iload 4, 2) := by decide +kernel
theorem d_W_pickLive_154 : decode prog_12_method_3_code 154 = .ok (.ifCond .eq 25, 3) := by decide +kernel
theorem d_W_pickLive_157 : decode prog_12_method_3_code 157 = .ok (.aload_n 0, 1) := by decide +kernel
theorem d_W_pickLive_158 : decode prog_12_method_3_code 158 = .ok (.getfield 27, 3) := by decide +kernel
theorem d_W_pickLive_161 : decode prog_12_method_3_code 161 = .ok (.getfield 91, 3) := by decide +kernel
theorem d_W_pickLive_164 : decode prog_12_method_3_code 164 = .ok (.iload_n 3, 1) := by decide +kernel
theorem d_W_pickLive_165 : decode prog_12_method_3_code 165 = .ok (.iaload, 1) := by decide +kernel
theorem d_W_pickLive_166 : decode prog_12_method_3_code 166 = .ok (.aload_n 0, 1) := by decide +kernel
theorem d_W_pickLive_167 : decode prog_12_method_3_code 167 = .ok (.getfield 27, 3) := by decide +kernel
theorem d_W_pickLive_170 : decode prog_12_method_3_code 170 = .ok (.getfield 94, 3) := by decide +kernel
theorem d_W_pickLive_173 : decode prog_12_method_3_code 173 = .ok (.iload_n 2, 1) := by decide +kernel
theorem d_W_pickLive_174 : decode prog_12_method_3_code 174 = .ok (.iaload, 1) := by decide +kernel
theorem d_W_pickLive_175 : decode prog_12_method_3_code 175 = .ok (.ixor, 1) := by decide +kernel
theorem d_W_pickLive_176 : decode prog_12_method_3_code 176 = .ok (.goto 4, 3) := by decide +kernel
theorem d_W_pickLive_179 : decode prog_12_method_3_code 179 = .ok (.iconst 0, 1) := by decide +kernel
theorem d_W_pickLive_180 : decode prog_12_method_3_code 180 = .ok (.iastore, 1) := by decide +kernel
theorem d_W_pickLive_181 : decode prog_12_method_3_code 181 = .ok (.iinc 2 (-1), 3) := by decide +kernel
theorem d_W_pickLive_184 : decode prog_12_method_3_code 184 = .ok (.goto (-110), 3) := by decide +kernel
theorem d_W_pickLive_187 : decode prog_12_method_3_code 187 = .ok (.return_, 1) := by decide +kernel
theorem d_W_prepare_0 : decode prog_12_method_2_code 0 = .ok (.aload_n 0, 1) := by decide +kernel
theorem d_W_prepare_1 : decode prog_12_method_2_code 1 = .ok (.iload_n 1, 1) := by decide +kernel
theorem d_W_prepare_2 : decode prog_12_method_2_code 2 = .ok (.putfield 39, 3) := by decide +kernel
theorem d_W_prepare_5 : decode prog_12_method_2_code 5 = .ok (.aload_n 0, 1) := by decide +kernel
theorem d_W_prepare_6 : decode prog_12_method_2_code 6 = .ok (.bipush 23, 2) := by decide +kernel
theorem d_W_prepare_8 : decode prog_12_method_2_code 8 = .ok (.putfield 45, 3) := by decide +kernel
theorem d_W_prepare_11 : decode prog_12_method_2_code 11 = .ok (.aload_n 0, 1) := by decide +kernel
theorem d_W_prepare_12 : decode prog_12_method_2_code 12 = .ok (.iconst 0, 1) := by decide +kernel
theorem d_W_prepare_13 : decode prog_12_method_2_code 13 = .ok (.putfield 48, 3) := by decide +kernel
theorem d_W_prepare_16 : decode prog_12_method_2_code 16 = .ok (.aload_n 0, 1) := by decide +kernel
theorem d_W_prepare_17 : decode prog_12_method_2_code 17 = .ok (.iconst 0, 1) := by decide +kernel
theorem d_W_prepare_18 : decode prog_12_method_2_code 18 = .ok (.putfield 51, 3) := by decide +kernel
theorem d_W_prepare_21 : decode prog_12_method_2_code 21 = .ok (.aload_n 0, 1) := by decide +kernel
theorem d_W_prepare_22 : decode prog_12_method_2_code 22 = .ok (.aload_n 0, 1) := by decide +kernel
theorem d_W_prepare_23 : decode prog_12_method_2_code 23 = .ok (.getfield 35, 3) := by decide +kernel
theorem d_W_prepare_26 : decode prog_12_method_2_code 26 = .ok (.iconst 0, 1) := by decide +kernel
theorem d_W_prepare_27 : decode prog_12_method_2_code 27 = .ok (.invokevirtual 54, 3) := by decide +kernel
theorem d_W_prepare_30 : decode prog_12_method_2_code 30 = .ok (.putfield 60, 3) := by decide +kernel
theorem d_W_prepare_33 : decode prog_12_method_2_code 33 = .ok (.aload_n 0, 1) := by decide +kernel
theorem d_W_prepare_34 : decode prog_12_method_2_code 34 = .ok (.invokevirtual 63, 3) := by decide +kernel
theorem d_W_prepare_37 : decode prog_12_method_2_code 37 = .ok (.return_, 1) := by decide +kernel
theorem d_W_keep_0 : decode prog_12_method_7_code 0 = .ok (.aload_n 0, 1) := by decide +kernel
theorem d_W_keep_1 : decode prog_12_method_7_code 1 = .ok (.getfield 51, 3) := by decide +kernel
theorem d_W_keep_4 : decode prog_12_method_7_code 4 = .ok (.aload_n 0, 1) := by decide +kernel
theorem d_W_keep_5 : decode prog_12_method_7_code 5 = .ok (.getfield 20, 3) := by decide +kernel
theorem d_W_keep_8 : decode prog_12_method_7_code 8 = .ok (.arraylength, 1) := by decide +kernel
theorem d_W_keep_9 : decode prog_12_method_7_code 9 = .ok (.if_icmp .lt 21, 3) := by decide +kernel
theorem d_W_keep_12 : decode prog_12_method_7_code 12 = .ok (.aload_n 0, 1) := by decide +kernel
theorem d_W_keep_13 : decode prog_12_method_7_code 13 = .ok (.aload_n 0, 1) := by decide +kernel
theorem d_W_keep_14 : decode prog_12_method_7_code 14 = .ok (.getfield 20, 3) := by decide +kernel
theorem d_W_keep_17 : decode prog_12_method_7_code 17 = .ok (.aload_n 0, 1) := by decide +kernel
theorem d_W_keep_18 : decode prog_12_method_7_code 18 = .ok (.getfield 20, 3) := by decide +kernel
theorem d_W_keep_21 : decode prog_12_method_7_code 21 = .ok (.arraylength, 1) := by decide +kernel
theorem d_W_keep_22 : decode prog_12_method_7_code 22 = .ok (.iconst 2, 1) := by decide +kernel
theorem d_W_keep_23 : decode prog_12_method_7_code 23 = .ok (.imul, 1) := by decide +kernel
theorem d_W_keep_24 : decode prog_12_method_7_code 24 = .ok (.invokestatic 138, 3) := by decide +kernel
theorem d_W_keep_27 : decode prog_12_method_7_code 27 = .ok (.putfield 20, 3) := by decide +kernel
theorem d_W_keep_30 : decode prog_12_method_7_code 30 = .ok (.aload_n 0, 1) := by decide +kernel
theorem d_W_keep_31 : decode prog_12_method_7_code 31 = .ok (.getfield 20, 3) := by decide +kernel
theorem d_W_keep_34 : decode prog_12_method_7_code 34 = .ok (.aload_n 0, 1) := by decide +kernel
theorem d_W_keep_35 : decode prog_12_method_7_code 35 = .ok (.getfield 51, 3) := by decide +kernel
theorem d_W_keep_38 : decode prog_12_method_7_code 38 = .ok (.iload_n 1, 1) := by decide +kernel
theorem d_W_keep_39 : decode prog_12_method_7_code 39 = .ok (.iastore, 1) := by decide +kernel
theorem d_W_keep_40 : decode prog_12_method_7_code 40 = .ok (.aload_n 0, 1) := by decide +kernel
theorem d_W_keep_41 : decode prog_12_method_7_code 41 = .ok (.dup, 1) := by decide +kernel
theorem d_W_keep_42 : decode prog_12_method_7_code 42 = .ok (.getfield 51, 3) := by decide +kernel
theorem d_W_keep_45 : decode prog_12_method_7_code 45 = .ok (.iconst 1, 1) := by decide +kernel
theorem d_W_keep_46 : decode prog_12_method_7_code 46 = .ok (.iadd, 1) := by decide +kernel
theorem d_W_keep_47 : decode prog_12_method_7_code 47 = .ok (.putfield 51, 3) := by decide +kernel
theorem d_W_keep_50 : decode prog_12_method_7_code 50 = .ok (.return_, 1) := by decide +kernel
theorem d_W_weigh_0 : decode prog_12_method_6_code 0 = .ok (.iload_n 2, 1) := by decide +kernel
theorem d_W_weigh_1 : decode prog_12_method_6_code 1 = .ok (.aload_n 0, 1) := by decide +kernel
theorem d_W_weigh_2 : decode prog_12_method_6_code 2 = .ok (.getfield 45, 3) := by decide +kernel
theorem d_W_weigh_5 : decode prog_12_method_6_code 5 = .ok (.if_icmp .ge 13, 3) := by decide +kernel
theorem d_W_weigh_8 : decode prog_12_method_6_code 8 = .ok (.aload_n 0, 1) := by decide +kernel
theorem d_W_weigh_9 : decode prog_12_method_6_code 9 = .ok (.iload_n 2, 1) := by decide +kernel
theorem d_W_weigh_10 : decode prog_12_method_6_code 10 = .ok (.putfield 45, 3) := by decide +kernel
theorem d_W_weigh_13 : decode prog_12_method_6_code 13 = .ok (.aload_n 0, 1) := by decide +kernel
theorem d_W_weigh_14 : decode prog_12_method_6_code 14 = .ok (.iload_n 1, 1) := by decide +kernel
theorem d_W_weigh_15 : decode prog_12_method_6_code 15 = .ok (.putfield 48, 3) := by decide +kernel
theorem d_W_weigh_18 : decode prog_12_method_6_code 18 = .ok (.aload_n 0, 1) := by decide +kernel
theorem d_W_weigh_19 : decode prog_12_method_6_code 19 = .ok (.getfield 45, 3) := by decide +kernel
theorem d_W_weigh_22 : decode prog_12_method_6_code 22 = .ok (.ifCond .ne 7, 3) := by decide +kernel
theorem d_W_weigh_25 : decode prog_12_method_6_code 25 = .ok (.iconst 1, 1) := by decide +kernel
theorem d_W_weigh_26 : decode prog_12_method_6_code 26 = .ok (.goto 4, 3) := by decide +kernel
theorem d_W_weigh_29 : decode prog_12_method_6_code 29 = .ok (.iconst 0, 1) := by decide +kernel
theorem d_W_weigh_30 : decode prog_12_method_6_code 30 = .ok (.ireturn, 1) := by decide +kernel
theorem d_W_arrive_0 : decode prog_12_method_5_code 0 = .ok (.aload_n 0, 1) := by decide +kernel
theorem d_W_arrive_1 : decode prog_12_method_5_code 1 = .ok (.getfield 35, 3) := by decide +kernel
theorem d_W_arrive_4 : decode prog_12_method_5_code 4 = .ok (.iload_n 2, 1) := by decide +kernel
theorem d_W_arrive_5 : decode prog_12_method_5_code 5 = .ok (.invokevirtual 115, 3) := by decide +kernel
theorem d_W_arrive_8 : decode prog_12_method_5_code 8 = .ok (.ifCond .eq 14, 3) := by decide +kernel
theorem d_W_arrive_11 : decode prog_12_method_5_code 11 = .ok (.aload_n 0, 1) := by decide +kernel
theorem d_W_arrive_12 : decode prog_12_method_5_code 12 = .ok (.getfield 35, 3) := by decide +kernel
theorem d_W_arrive_15 : decode prog_12_method_5_code 15 = .ok (.iload_n 1, 1) := by decide +kernel
theorem d_W_arrive_16 : decode prog_12_method_5_code 16 = .ok (.invokevirtual 118, 3) := by decide +kernel
theorem d_W_arrive_19 : decode prog_12_method_5_code 19 = .ok (.ifCond .ne 5, 3) := by decide +kernel
theorem d_W_arrive_22 : decode prog_12_method_5_code 22 = .ok (.iconst 0, 1) := by decide +kernel
theorem d_W_arrive_23 : decode prog_12_method_5_code 23 = .ok (.ireturn, 1) := by decide +kernel
theorem d_W_arrive_24 : decode prog_12_method_5_code 24 = .ok (.aload_n 0, 1) := by decide +kernel
theorem d_W_arrive_25 : decode prog_12_method_5_code 25 = .ok (.getfield 39, 3) := by decide +kernel
theorem d_W_arrive_28 : decode prog_12_method_5_code 28 = .ok (.iconst 1, 1) := by decide +kernel
theorem d_W_arrive_29 : decode prog_12_method_5_code 29 = .ok (.if_icmp .ne 28, 3) := by decide +kernel
theorem d_W_arrive_32 : decode prog_12_method_5_code 32 = .ok (.aload_n 0, 1) := by decide +kernel
theorem d_W_arrive_33 : decode prog_12_method_5_code 33 = .ok (.iload_n 1, 1) := by decide +kernel
theorem d_W_arrive_34 : decode prog_12_method_5_code 34 = .ok (.aload_n 0, 1) := by decide +kernel
theorem d_W_arrive_35 : decode prog_12_method_5_code 35 = .ok (.getfield 35, 3) := by decide +kernel
theorem d_W_arrive_38 : decode prog_12_method_5_code 38 = .ok (.iload_n 2, 1) := by decide +kernel
theorem d_W_arrive_39 : decode prog_12_method_5_code 39 = .ok (.iload_n 3, 1) := by decide +kernel
theorem d_W_arrive_40 : decode prog_12_method_5_code 40 = .ok (.invokevirtual 121, 3) := by decide +kernel
theorem d_W_arrive_43 : decode prog_12_method_5_code 43 = .ok (.aload_n 0, 1) := by decide +kernel
theorem d_W_arrive_44 : decode prog_12_method_5_code 44 = .ok (.getfield 35, 3) := by decide +kernel
theorem d_W_arrive_47 : decode prog_12_method_5_code 47 = .ok (.iload_n 1, 1) := by decide +kernel
theorem d_W_arrive_48 : decode prog_12_method_5_code 48 = .ok (.iload_n 2, 1) := by decide +kernel
theorem d_W_arrive_49 : decode prog_12_method_5_code 49 = .ok (.invokevirtual 125, 3) := by decide +kernel
theorem d_W_arrive_52 : decode prog_12_method_5_code 52 = .ok (.iadd, 1) := by decide +kernel
theorem d_W_arrive_53 : decode prog_12_method_5_code 53 = .ok (.invokevirtual 128, 3) := by decide +kernel
theorem d_W_arrive_56 : decode prog_12_method_5_code 56 = .ok (.ireturn, 1) := by decide +kernel
theorem d_W_arrive_57 : decode prog_12_method_5_code 57 = .ok (.aload_n 0, 1) := by decide +kernel
theorem d_W_arrive_58 : decode prog_12_method_5_code 58 = .ok (.getfield 35, 3) := by decide +kernel
theorem d_W_arrive_61 : decode prog_12_method_5_code 61 = .ok (.iload_n 2, 1) := by decide +kernel
theorem d_W_arrive_62 : decode prog_12_method_5_code 62 = .ok (.iload_n 3, 1) := by decide +kernel
theorem d_W_arrive_63 : decode prog_12_method_5_code 63 = .ok (.invokevirtual 131, 3) := by decide +kernel
theorem d_W_arrive_66 : decode prog_12_method_5_code 66 = .ok (.iconst (-1), 1) := by decide +kernel
theorem d_W_arrive_67 : decode prog_12_method_5_code 67 = .ok (.if_icmp .ne 15, 3) := by decide +kernel
theorem d_W_arrive_70 : decode prog_12_method_5_code 70 = .ok (.aload_n 0, 1) := by decide +kernel
theorem d_W_arrive_71 : decode prog_12_method_5_code 71 = .ok (.getfield 35, 3) := by decide +kernel
theorem d_W_arrive_74 : decode prog_12_method_5_code 74 = .ok (.iload_n 1, 1) := by decide +kernel
theorem d_W_arrive_75 : decode prog_12_method_5_code 75 = .ok (.iload_n 2, 1) := by decide +kernel
theorem d_W_arrive_76 : decode prog_12_method_5_code 76 = .ok (.invokevirtual 125, 3) := by decide +kernel
theorem d_W_arrive_79 : decode prog_12_method_5_code 79 = .ok (.ifCond .le 5, 3) := by decide +kernel
theorem d_W_arrive_82 : decode prog_12_method_5_code 82 = .ok (.iconst 0, 1) := by decide +kernel
theorem d_W_arrive_83 : decode prog_12_method_5_code 83 = .ok (.ireturn, 1) := by decide +kernel
theorem d_W_arrive_84 : decode prog_12_method_5_code 84 = .ok (.aload_n 0, 1) := by decide +kernel
theorem d_W_arrive_85 : decode prog_12_method_5_code 85 = .ok (.getfield 39, 3) := by decide +kernel
theorem d_W_arrive_88 : decode prog_12_method_5_code 88 = .ok (.ifCond .ne 8, 3) := by decide +kernel
theorem d_W_arrive_91 : decode prog_12_method_5_code 91 = .ok (.aload_n 0, 1) := by decide +kernel
theorem d_W_arrive_92 : decode prog_12_method_5_code 92 = .ok (.iload_n 1, 1) := by decide +kernel
theorem d_W_arrive_93 : decode prog_12_method_5_code 93 = .ok (.invokevirtual 134, 3) := by decide +kernel
theorem d_W_arrive_96 : decode prog_12_method_5_code 96 = .ok (.aload_n 0, 1) := by decide +kernel
theorem d_W_arrive_97 : decode prog_12_method_5_code 97 = .ok (.getfield 39, 3) := by decide +kernel
theorem d_W_arrive_100 : decode prog_12_method_5_code 100 = .ok (.iconst 2, 1) := by decide +kernel
theorem d_W_arrive_101 : decode prog_12_method_5_code 101 = .ok (.if_icmp .ne 7, 3) := by decide +kernel
theorem d_W_arrive_104 : decode prog_12_method_5_code 104 = .ok (.iconst 1, 1) := by decide +kernel
theorem d_W_arrive_105 : decode prog_12_method_5_code 105 = .ok (.goto 4, 3) := by decide +kernel
theorem d_W_arrive_108 : decode prog_12_method_5_code 108 = .ok (.iconst 0, 1) := by decide +kernel
theorem d_W_arrive_109 : decode prog_12_method_5_code 109 = .ok (.ireturn, 1) := by decide +kernel
theorem d_W_step_0 : decode prog_12_method_4_code 0 = .ok (.iload_n 1, 1) := by decide +kernel
theorem d_W_step_1 : decode prog_12_method_4_code 1 = .ok (.aload_n 0, 1) := by decide +kernel
theorem d_W_step_2 : decode prog_12_method_4_code 2 = .ok (.getfield 75, 3) := by decide +kernel
theorem d_W_step_5 : decode prog_12_method_4_code 5 = .ok (.if_icmp .lt 12, 3) := by decide +kernel
theorem d_W_step_8 : decode prog_12_method_4_code 8 = .ok (.aload_n 0, 1) := by decide +kernel
theorem d_W_step_9 : decode prog_12_method_4_code 9 = .ok (.iload_n 2, 1) := by decide +kernel
theorem d_W_step_10 : decode prog_12_method_4_code 10 = .ok (.iload_n 3, 1) := by decide +kernel
theorem d_W_step_11 : decode prog_12_method_4_code 11 = .ok (.iload 4, 2) := by decide +kernel
theorem d_W_step_13 : decode prog_12_method_4_code 13 = .ok (.invokevirtual 97, 3) := by decide +kernel
theorem d_W_step_16 : decode prog_12_method_4_code 16 = .ok (.ireturn, 1) := by decide +kernel
theorem d_W_step_17 : decode prog_12_method_4_code 17 = .ok (.aload_n 0, 1) := by decide +kernel
theorem d_W_step_18 : decode prog_12_method_4_code 18 = .ok (.iload_n 1, 1) := by decide +kernel
theorem d_W_step_19 : decode prog_12_method_4_code 19 = .ok (.iconst 1, 1) := by decide +kernel
theorem d_W_step_20 : decode prog_12_method_4_code 20 = .ok (.iadd, 1) := by decide +kernel
theorem d_W_step_21 : decode prog_12_method_4_code 21 = .ok (.iload_n 2, 1) := by decide +kernel
theorem d_W_step_22 : decode prog_12_method_4_code 22 = .ok (.iload_n 3, 1) := by decide +kernel
theorem d_W_step_23 : decode prog_12_method_4_code 23 = .ok (.iload 4, 2) := by decide +kernel
theorem d_W_step_25 : decode prog_12_method_4_code 25 = .ok (.iload 5, 2) := by decide +kernel
theorem d_W_step_27 : decode prog_12_method_4_code 27 = .ok (.invokevirtual 101, 3) := by decide +kernel
theorem d_W_step_30 : decode prog_12_method_4_code 30 = .ok (.ifCond .eq 5, 3) := by decide +kernel
theorem d_W_step_33 : decode prog_12_method_4_code 33 = .ok (.iconst 1, 1) := by decide +kernel
theorem d_W_step_34 : decode prog_12_method_4_code 34 = .ok (.ireturn, 1) := by decide +kernel
theorem d_W_step_35 : decode prog_12_method_4_code 35 = .ok (.aload_n 0, 1) := by decide +kernel
theorem d_W_step_36 : decode prog_12_method_4_code 36 = .ok (.getfield 11, 3) := by decide +kernel
theorem d_W_step_39 : decode prog_12_method_4_code 39 = .ok (.iload_n 1, 1) := by decide +kernel
theorem d_W_step_40 : decode prog_12_method_4_code 40 = .ok (.iaload, 1) := by decide +kernel
theorem d_W_step_41 : decode prog_12_method_4_code 41 = .ok (.istore 6, 2) := by decide +kernel
theorem d_W_step_43 : decode prog_12_method_4_code 43 = .ok (.iconst 1, 1) := by decide +kernel
theorem d_W_step_44 : decode prog_12_method_4_code 44 = .ok (.aload_n 0, 1) := by decide +kernel
theorem d_W_step_45 : decode prog_12_method_4_code 45 = .ok (.getfield 23, 3) := by decide +kernel
theorem d_W_step_48 : decode prog_12_method_4_code 48 = .ok (.getfield 79, 3) := by decide +kernel
theorem d_W_step_51 : decode prog_12_method_4_code 51 = .ok (.iload 6, 2) := by decide +kernel
theorem d_W_step_53 : decode prog_12_method_4_code 53 = .ok (.iaload, 1) := by decide +kernel
theorem d_W_step_54 : decode prog_12_method_4_code 54 = .ok (.ishl, 1) := by decide +kernel
theorem d_W_step_55 : decode prog_12_method_4_code 55 = .ok (.istore 7, 2) := by decide +kernel
theorem d_W_step_57 : decode prog_12_method_4_code 57 = .ok (.iload_n 3, 1) := by decide +kernel
theorem d_W_step_58 : decode prog_12_method_4_code 58 = .ok (.iconst 1, 1) := by decide +kernel
theorem d_W_step_59 : decode prog_12_method_4_code 59 = .ok (.aload_n 0, 1) := by decide +kernel
theorem d_W_step_60 : decode prog_12_method_4_code 60 = .ok (.getfield 23, 3) := by decide +kernel
theorem d_W_step_63 : decode prog_12_method_4_code 63 = .ok (.getfield 105, 3) := by decide +kernel
theorem d_W_step_66 : decode prog_12_method_4_code 66 = .ok (.iload 6, 2) := by decide +kernel
theorem d_W_step_68 : decode prog_12_method_4_code 68 = .ok (.iaload, 1) := by decide +kernel
theorem d_W_step_69 : decode prog_12_method_4_code 69 = .ok (.ishl, 1) := by decide +kernel
theorem d_W_step_70 : decode prog_12_method_4_code 70 = .ok (.ior, 1) := by decide +kernel
theorem d_W_step_71 : decode prog_12_method_4_code 71 = .ok (.istore 8, 2) := by decide +kernel
theorem d_W_step_73 : decode prog_12_method_4_code 73 = .ok (.iload 5, 2) := by decide +kernel
theorem d_W_step_75 : decode prog_12_method_4_code 75 = .ok (.iload 7, 2) := by decide +kernel
theorem d_W_step_77 : decode prog_12_method_4_code 77 = .ok (.iand, 1) := by decide +kernel
theorem d_W_step_78 : decode prog_12_method_4_code 78 = .ok (.ifCond .ne 25, 3) := by decide +kernel
theorem d_W_step_81 : decode prog_12_method_4_code 81 = .ok (.aload_n 0, 1) := by decide +kernel
theorem d_W_step_82 : decode prog_12_method_4_code 82 = .ok (.getfield 35, 3) := by decide +kernel
theorem d_W_step_85 : decode prog_12_method_4_code 85 = .ok (.aload_n 0, 1) := by decide +kernel
theorem d_W_step_86 : decode prog_12_method_4_code 86 = .ok (.getfield 23, 3) := by decide +kernel
theorem d_W_step_89 : decode prog_12_method_4_code 89 = .ok (.getfield 108, 3) := by decide +kernel
theorem d_W_step_92 : decode prog_12_method_4_code 92 = .ok (.iload 6, 2) := by decide +kernel
theorem d_W_step_94 : decode prog_12_method_4_code 94 = .ok (.iaload, 1) := by decide +kernel
theorem d_W_step_95 : decode prog_12_method_4_code 95 = .ok (.iload 8, 2) := by decide +kernel
theorem d_W_step_97 : decode prog_12_method_4_code 97 = .ok (.invokevirtual 111, 3) := by decide +kernel
theorem d_W_step_100 : decode prog_12_method_4_code 100 = .ok (.ifCond .ne 5, 3) := by decide +kernel
theorem d_W_step_103 : decode prog_12_method_4_code 103 = .ok (.iconst 0, 1) := by decide +kernel
theorem d_W_step_104 : decode prog_12_method_4_code 104 = .ok (.ireturn, 1) := by decide +kernel
theorem d_W_step_105 : decode prog_12_method_4_code 105 = .ok (.aload_n 0, 1) := by decide +kernel
theorem d_W_step_106 : decode prog_12_method_4_code 106 = .ok (.iload_n 1, 1) := by decide +kernel
theorem d_W_step_107 : decode prog_12_method_4_code 107 = .ok (.iconst 1, 1) := by decide +kernel
theorem d_W_step_108 : decode prog_12_method_4_code 108 = .ok (.iadd, 1) := by decide +kernel
theorem d_W_step_109 : decode prog_12_method_4_code 109 = .ok (.iload_n 2, 1) := by decide +kernel
theorem d_W_step_110 : decode prog_12_method_4_code 110 = .ok (.iconst 1, 1) := by decide +kernel
theorem d_W_step_111 : decode prog_12_method_4_code 111 = .ok (.iload 6, 2) := by decide +kernel
theorem d_W_step_113 : decode prog_12_method_4_code 113 = .ok (.ishl, 1) := by decide +kernel
theorem d_W_step_114 : decode prog_12_method_4_code 114 = .ok (.ior, 1) := by decide +kernel
theorem d_W_step_115 : decode prog_12_method_4_code 115 = .ok (.iload 8, 2) := by decide +kernel
theorem d_W_step_117 : decode prog_12_method_4_code 117 = .ok (.iload 4, 2) := by decide +kernel
theorem d_W_step_119 : decode prog_12_method_4_code 119 = .ok (.aload_n 0, 1) := by decide +kernel
theorem d_W_step_120 : decode prog_12_method_4_code 120 = .ok (.getfield 17, 3) := by decide +kernel
theorem d_W_step_123 : decode prog_12_method_4_code 123 = .ok (.iload 6, 2) := by decide +kernel
theorem d_W_step_125 : decode prog_12_method_4_code 125 = .ok (.iaload, 1) := by decide +kernel
theorem d_W_step_126 : decode prog_12_method_4_code 126 = .ok (.ixor, 1) := by decide +kernel
theorem d_W_step_127 : decode prog_12_method_4_code 127 = .ok (.iload 5, 2) := by decide +kernel
theorem d_W_step_129 : decode prog_12_method_4_code 129 = .ok (.iload 7, 2) := by decide +kernel
theorem d_W_step_131 : decode prog_12_method_4_code 131 = .ok (.ior, 1) := by decide +kernel
theorem d_W_step_132 : decode prog_12_method_4_code 132 = .ok (.invokevirtual 101, 3) := by decide +kernel
theorem d_W_step_135 : decode prog_12_method_4_code 135 = .ok (.ireturn, 1) := by decide +kernel
