theorem d_B_init_0 : decode prog_2_method_1_code 0 = .ok (.aload_n 0, 1) := by decide +kernel
theorem d_B_init_1 : decode prog_2_method_1_code 1 = .ok (.invokespecial 1, 3) := by decide +kernel
theorem d_B_init_4 : decode prog_2_method_1_code 4 = .ok (.aload_n 0, 1) := by decide +kernel
theorem d_B_init_5 : decode prog_2_method_1_code 5 = .ok (.bipush 20, 2) := by decide +kernel
theorem d_B_init_7 : decode prog_2_method_1_code 7 = .ok (.newarray .int, 2) := by decide +kernel
theorem d_B_init_9 : decode prog_2_method_1_code 9 = .ok (.putfield 9, 3) := by decide +kernel
theorem d_B_init_12 : decode prog_2_method_1_code 12 = .ok (.aload_n 0, 1) := by decide +kernel
theorem d_B_init_13 : decode prog_2_method_1_code 13 = .ok (.bipush 20, 2) := by decide +kernel
theorem d_B_init_15 : decode prog_2_method_1_code 15 = .ok (.newarray .int, 2) := by decide +kernel
theorem d_B_init_17 : decode prog_2_method_1_code 17 = .ok (.putfield 13, 3) := by decide +kernel
theorem d_B_init_20 : decode prog_2_method_1_code 20 = .ok (.aload_n 0, 1) := by decide +kernel
theorem d_B_init_21 : decode prog_2_method_1_code 21 = .ok (.bipush 20, 2) := by decide +kernel
theorem d_B_init_23 : decode prog_2_method_1_code 23 = .ok (.newarray .int, 2) := by decide +kernel
theorem d_B_init_25 : decode prog_2_method_1_code 25 = .ok (.putfield 16, 3) := by decide +kernel
theorem d_B_init_28 : decode prog_2_method_1_code 28 = .ok (.aload_n 0, 1) := by decide +kernel
theorem d_B_init_29 : decode prog_2_method_1_code 29 = .ok (.bipush 20, 2) := by decide +kernel
theorem d_B_init_31 : decode prog_2_method_1_code 31 = .ok (.newarray .int, 2) := by decide +kernel
theorem d_B_init_33 : decode prog_2_method_1_code 33 = .ok (.putfield 19, 3) := by decide +kernel
theorem d_B_init_36 : decode prog_2_method_1_code 36 = .ok (.aload_n 0, 1) := by decide +kernel
theorem d_B_init_37 : decode prog_2_method_1_code 37 = .ok (.bipush 20, 2) := by decide +kernel
theorem d_B_init_39 : decode prog_2_method_1_code 39 = .ok (.newarray .int, 2) := by decide +kernel
theorem d_B_init_41 : decode prog_2_method_1_code 41 = .ok (.putfield 22, 3) := by decide +kernel
theorem d_B_init_44 : decode prog_2_method_1_code 44 = .ok (.aload_n 0, 1) := by decide +kernel
theorem d_B_init_45 : decode prog_2_method_1_code 45 = .ok (.bipush 20, 2) := by decide +kernel
theorem d_B_init_47 : decode prog_2_method_1_code 47 = .ok (.newarray .int, 2) := by decide +kernel
theorem d_B_init_49 : decode prog_2_method_1_code 49 = .ok (.putfield 25, 3) := by decide +kernel
theorem d_B_init_52 : decode prog_2_method_1_code 52 = .ok (.aload_n 0, 1) := by decide +kernel
theorem d_B_init_53 : decode prog_2_method_1_code 53 = .ok (.bipush 32, 2) := by decide +kernel
theorem d_B_init_55 : decode prog_2_method_1_code 55 = .ok (.newarray .int, 2) := by decide +kernel
theorem d_B_init_57 : decode prog_2_method_1_code 57 = .ok (.putfield 30, 3) := by decide +kernel
theorem d_B_init_60 : decode prog_2_method_1_code 60 = .ok (.aload_n 0, 1) := by decide +kernel
theorem d_B_init_61 : decode prog_2_method_1_code 61 = .ok (.iconst 4, 1) := by decide +kernel
theorem d_B_init_62 : decode prog_2_method_1_code 62 = .ok (.newarray .int, 2) := by decide +kernel
theorem d_B_init_64 : decode prog_2_method_1_code 64 = .ok (.putfield 33, 3) := by decide +kernel
theorem d_B_init_67 : decode prog_2_method_1_code 67 = .ok (.aload_n 0, 1) := by decide +kernel
theorem d_B_init_68 : decode prog_2_method_1_code 68 = .ok (.bipush 7, 2) := by decide +kernel
theorem d_B_init_70 : decode prog_2_method_1_code 70 = .ok (.newarray .int, 2) := by decide +kernel
theorem d_B_init_72 : decode prog_2_method_1_code 72 = .ok (.putfield 38, 3) := by decide +kernel
theorem d_B_init_75 : decode prog_2_method_1_code 75 = .ok (.aload_n 0, 1) := by decide +kernel
theorem d_B_init_76 : decode prog_2_method_1_code 76 = .ok (.bipush 35, 2) := by decide +kernel
theorem d_B_init_78 : decode prog_2_method_1_code 78 = .ok (.newarray .int, 2) := by decide +kernel
theorem d_B_init_80 : decode prog_2_method_1_code 80 = .ok (.putfield 41, 3) := by decide +kernel
theorem d_B_init_83 : decode prog_2_method_1_code 83 = .ok (.aload_n 0, 1) := by decide +kernel
theorem d_B_init_84 : decode prog_2_method_1_code 84 = .ok (.bipush 7, 2) := by decide +kernel
theorem d_B_init_86 : decode prog_2_method_1_code 86 = .ok (.newarray .int, 2) := by decide +kernel
theorem d_B_init_88 : decode prog_2_method_1_code 88 = .ok (.putfield 44, 3) := by decide +kernel
theorem d_B_init_91 : decode prog_2_method_1_code 91 = .ok (.aload_n 0, 1) := by decide +kernel
theorem d_B_init_92 : decode prog_2_method_1_code 92 = .ok (.bipush 7, 2) := by decide +kernel
theorem d_B_init_94 : decode prog_2_method_1_code 94 = .ok (.newarray .int, 2) := by decide +kernel
theorem d_B_init_96 : decode prog_2_method_1_code 96 = .ok (.putfield 47, 3) := by decide +kernel
theorem d_B_init_99 : decode prog_2_method_1_code 99 = .ok (.return_, 1) := by decide +kernel
theorem d_B_hasRoom_0 : decode prog_2_method_5_code 0 = .ok (.aload_n 0, 1) := by decide +kernel
theorem d_B_hasRoom_1 : decode prog_2_method_5_code 1 = .ok (.getfield 50, 3) := by decide +kernel
theorem d_B_hasRoom_4 : decode prog_2_method_5_code 4 = .ok (.bipush 20, 2) := by decide +kernel
theorem d_B_hasRoom_6 : decode prog_2_method_5_code 6 = .ok (.if_icmp .ge 28, 3) := by decide +kernel
theorem d_B_hasRoom_9 : decode prog_2_method_5_code 9 = .ok (.aload_n 0, 1) := by decide +kernel
theorem d_B_hasRoom_10 : decode prog_2_method_5_code 10 = .ok (.getfield 33, 3) := by decide +kernel
theorem d_B_hasRoom_13 : decode prog_2_method_5_code 13 = .ok (.iload_n 2, 1) := by decide +kernel
theorem d_B_hasRoom_14 : decode prog_2_method_5_code 14 = .ok (.iaload, 1) := by decide +kernel
theorem d_B_hasRoom_15 : decode prog_2_method_5_code 15 = .ok (.bipush 8, 2) := by decide +kernel
theorem d_B_hasRoom_17 : decode prog_2_method_5_code 17 = .ok (.if_icmp .ge 17, 3) := by decide +kernel
theorem d_B_hasRoom_20 : decode prog_2_method_5_code 20 = .ok (.aload_n 0, 1) := by decide +kernel
theorem d_B_hasRoom_21 : decode prog_2_method_5_code 21 = .ok (.getfield 38, 3) := by decide +kernel
theorem d_B_hasRoom_24 : decode prog_2_method_5_code 24 = .ok (.iload_n 1, 1) := by decide +kernel
theorem d_B_hasRoom_25 : decode prog_2_method_5_code 25 = .ok (.iaload, 1) := by decide +kernel
theorem d_B_hasRoom_26 : decode prog_2_method_5_code 26 = .ok (.iconst 5, 1) := by decide +kernel
theorem d_B_hasRoom_27 : decode prog_2_method_5_code 27 = .ok (.if_icmp .ge 7, 3) := by decide +kernel
theorem d_B_hasRoom_30 : decode prog_2_method_5_code 30 = .ok (.iconst 1, 1) := by decide +kernel
theorem d_B_hasRoom_31 : decode prog_2_method_5_code 31 = .ok (.goto 4, 3) := by decide +kernel
theorem d_B_hasRoom_34 : decode prog_2_method_5_code 34 = .ok (.iconst 0, 1) := by decide +kernel
theorem d_B_hasRoom_35 : decode prog_2_method_5_code 35 = .ok (.ireturn, 1) := by decide +kernel
theorem d_B_join_0 : decode prog_2_method_6_code 0 = .ok (.aload_n 0, 1) := by decide +kernel
theorem d_B_join_1 : decode prog_2_method_6_code 1 = .ok (.getfield 50, 3) := by decide +kernel
theorem d_B_join_4 : decode prog_2_method_6_code 4 = .ok (.istore 6, 2) := by decide +kernel
theorem d_B_join_6 : decode prog_2_method_6_code 6 = .ok (.aload_n 0, 1) := by decide +kernel
theorem d_B_join_7 : decode prog_2_method_6_code 7 = .ok (.getfield 9, 3) := by decide +kernel
theorem d_B_join_10 : decode prog_2_method_6_code 10 = .ok (.iload 6, 2) := by decide +kernel
theorem d_B_join_12 : decode prog_2_method_6_code 12 = .ok (.iload_n 1, 1) := by decide +kernel
theorem d_B_join_13 : decode prog_2_method_6_code 13 = .ok (.iastore, 1) := by decide +kernel
theorem d_B_join_14 : decode prog_2_method_6_code 14 = .ok (.aload_n 0, 1) := by decide +kernel
theorem d_B_join_15 : decode prog_2_method_6_code 15 = .ok (.getfield 13, 3) := by decide +kernel
theorem d_B_join_18 : decode prog_2_method_6_code 18 = .ok (.iload 6, 2) := by decide +kernel
theorem d_B_join_20 : decode prog_2_method_6_code 20 = .ok (.iload_n 2, 1) := by decide +kernel
theorem d_B_join_21 : decode prog_2_method_6_code 21 = .ok (.iastore, 1) := by decide +kernel
theorem d_B_join_22 : decode prog_2_method_6_code 22 = .ok (.aload_n 0, 1) := by decide +kernel
theorem d_B_join_23 : decode prog_2_method_6_code 23 = .ok (.getfield 16, 3) := by decide +kernel
theorem d_B_join_26 : decode prog_2_method_6_code 26 = .ok (.iload 6, 2) := by decide +kernel
theorem d_B_join_28 : decode prog_2_method_6_code 28 = .ok (.iload_n 3, 1) := by decide +kernel
theorem d_B_join_29 : decode prog_2_method_6_code 29 = .ok (.iastore, 1) := by decide +kernel
theorem d_B_join_30 : decode prog_2_method_6_code 30 = .ok (.aload_n 0, 1) := by decide +kernel
theorem d_B_join_31 : decode prog_2_method_6_code 31 = .ok (.getfield 19, 3) := by decide +kernel
theorem d_B_join_34 : decode prog_2_method_6_code 34 = .ok (.iload 6, 2) := by decide +kernel
theorem d_B_join_36 : decode prog_2_method_6_code 36 = .ok (.iload 4, 2) := by decide +kernel
theorem d_B_join_38 : decode prog_2_method_6_code 38 = .ok (.iastore, 1) := by decide +kernel
theorem d_B_join_39 : decode prog_2_method_6_code 39 = .ok (.aload_n 0, 1) := by decide +kernel
theorem d_B_join_40 : decode prog_2_method_6_code 40 = .ok (.getfield 22, 3) := by decide +kernel
theorem d_B_join_43 : decode prog_2_method_6_code 43 = .ok (.iload 6, 2) := by decide +kernel
theorem d_B_join_45 : decode prog_2_method_6_code 45 = .ok (.iload 5, 2) := by decide +kernel
theorem d_B_join_47 : decode prog_2_method_6_code 47 = .ok (.iastore, 1) := by decide +kernel
theorem d_B_join_48 : decode prog_2_method_6_code 48 = .ok (.aload_n 0, 1) := by decide +kernel
theorem d_B_join_49 : decode prog_2_method_6_code 49 = .ok (.getfield 25, 3) := by decide +kernel
theorem d_B_join_52 : decode prog_2_method_6_code 52 = .ok (.iload 6, 2) := by decide +kernel
theorem d_B_join_54 : decode prog_2_method_6_code 54 = .ok (.iload_n 2, 1) := by decide +kernel
theorem d_B_join_55 : decode prog_2_method_6_code 55 = .ok (.bipush 8, 2) := by decide +kernel
theorem d_B_join_57 : decode prog_2_method_6_code 57 = .ok (.imul, 1) := by decide +kernel
theorem d_B_join_58 : decode prog_2_method_6_code 58 = .ok (.aload_n 0, 1) := by decide +kernel
theorem d_B_join_59 : decode prog_2_method_6_code 59 = .ok (.getfield 33, 3) := by decide +kernel
theorem d_B_join_62 : decode prog_2_method_6_code 62 = .ok (.iload_n 2, 1) := by decide +kernel
theorem d_B_join_63 : decode prog_2_method_6_code 63 = .ok (.iaload, 1) := by decide +kernel
theorem d_B_join_64 : decode prog_2_method_6_code 64 = .ok (.iadd, 1) := by decide +kernel
theorem d_B_join_65 : decode prog_2_method_6_code 65 = .ok (.iastore, 1) := by decide +kernel
theorem d_B_join_66 : decode prog_2_method_6_code 66 = .ok (.aload_n 0, 1) := by decide +kernel
theorem d_B_join_67 : decode prog_2_method_6_code 67 = .ok (.getfield 30, 3) := by decide +kernel
theorem d_B_join_70 : decode prog_2_method_6_code 70 = .ok (.aload_n 0, 1) := by decide +kernel
theorem d_B_join_71 : decode prog_2_method_6_code 71 = .ok (.getfield 25, 3) := by decide +kernel
theorem d_B_join_74 : decode prog_2_method_6_code 74 = .ok (.iload 6, 2) := by decide +kernel
theorem d_B_join_76 : decode prog_2_method_6_code 76 = .ok (.iaload, 1) := by decide +kernel
theorem d_B_join_77 : decode prog_2_method_6_code 77 = .ok (.iload 6, 2) := by decide +kernel
theorem d_B_join_79 : decode prog_2_method_6_code 79 = .ok (.iastore, 1) := by decide +kernel
theorem d_B_join_80 : decode prog_2_method_6_code 80 = .ok (.aload_n 0, 1) := by decide +kernel
theorem d_B_join_81 : decode prog_2_method_6_code 81 = .ok (.getfield 41, 3) := by decide +kernel
theorem d_B_join_84 : decode prog_2_method_6_code 84 = .ok (.iload_n 1, 1) := by decide +kernel
theorem d_B_join_85 : decode prog_2_method_6_code 85 = .ok (.iconst 5, 1) := by decide +kernel
theorem d_B_join_86 : decode prog_2_method_6_code 86 = .ok (.imul, 1) := by decide +kernel
theorem d_B_join_87 : decode prog_2_method_6_code 87 = .ok (.aload_n 0, 1) := by decide +kernel
theorem d_B_join_88 : decode prog_2_method_6_code 88 = .ok (.getfield 38, 3) := by decide +kernel
theorem d_B_join_91 : decode prog_2_method_6_code 91 = .ok (.iload_n 1, 1) := by decide +kernel
theorem d_B_join_92 : decode prog_2_method_6_code 92 = .ok (.iaload, 1) := by decide +kernel
theorem d_B_join_93 : decode prog_2_method_6_code 93 = .ok (.iadd, 1) := by decide +kernel
theorem d_B_join_94 : decode prog_2_method_6_code 94 = .ok (.iload 6, 2) := by decide +kernel
theorem d_B_join_96 : decode prog_2_method_6_code 96 = .ok (.iastore, 1) := by decide +kernel
theorem d_B_join_97 : decode prog_2_method_6_code 97 = .ok (.aload_n 0, 1) := by decide +kernel
theorem d_B_join_98 : decode prog_2_method_6_code 98 = .ok (.getfield 44, 3) := by decide +kernel
theorem d_B_join_101 : decode prog_2_method_6_code 101 = .ok (.iload_n 1, 1) := by decide +kernel
theorem d_B_join_102 : decode prog_2_method_6_code 102 = .ok (.dup2, 1) := by decide +kernel
theorem d_B_join_103 : decode prog_2_method_6_code 103 = .ok (.iaload, 1) := by decide +kernel
theorem d_B_join_104 : decode prog_2_method_6_code 104 = .ok (.iconst 1, 1) := by decide +kernel
theorem d_B_join_105 : decode prog_2_method_6_code 105 = .ok (.iload 6, 2) := by decide +kernel
theorem d_B_join_107 : decode prog_2_method_6_code 107 = .ok (.ishl, 1) := by decide +kernel
theorem d_B_join_108 : decode prog_2_method_6_code 108 = .ok (.ior, 1) := by decide +kernel
theorem d_B_join_109 : decode prog_2_method_6_code 109 = .ok (.iastore, 1) := by decide +kernel
theorem d_B_join_110 : decode prog_2_method_6_code 110 = .ok (.aload_n 0, 1) := by decide +kernel
theorem d_B_join_111 : decode prog_2_method_6_code 111 = .ok (.getfield 47, 3) := by decide +kernel
theorem d_B_join_114 : decode prog_2_method_6_code 114 = .ok (.iload_n 1, 1) := by decide +kernel
theorem d_B_join_115 : decode prog_2_method_6_code 115 = .ok (.dup2, 1) := by decide +kernel
theorem d_B_join_116 : decode prog_2_method_6_code 116 = .ok (.iaload, 1) := by decide +kernel
theorem d_B_join_117 : decode prog_2_method_6_code 117 = .ok (.iconst 1, 1) := by decide +kernel
theorem d_B_join_118 : decode prog_2_method_6_code 118 = .ok (.aload_n 0, 1) := by decide +kernel
theorem d_B_join_119 : decode prog_2_method_6_code 119 = .ok (.getfield 25, 3) := by decide +kernel
theorem d_B_join_122 : decode prog_2_method_6_code 122 = .ok (.iload 6, 2) := by decide +kernel
theorem d_B_join_124 : decode prog_2_method_6_code 124 = .ok (.iaload, 1) := by decide +kernel
theorem d_B_join_125 : decode prog_2_method_6_code 125 = .ok (.ishl, 1) := by decide +kernel
theorem d_B_join_126 : decode prog_2_method_6_code 126 = .ok (.ior, 1) := by decide +kernel
theorem d_B_join_127 : decode prog_2_method_6_code 127 = .ok (.iastore, 1) := by decide +kernel
theorem d_B_join_128 : decode prog_2_method_6_code 128 = .ok (.aload_n 0, 1) := by decide +kernel
theorem d_B_join_129 : decode prog_2_method_6_code 129 = .ok (.getfield 33, 3) := by decide +kernel
theorem d_B_join_132 : decode prog_2_method_6_code 132 = .ok (.iload_n 2, 1) := by decide +kernel
theorem d_B_join_133 : decode prog_2_method_6_code 133 = .ok (.dup2, 1) := by decide +kernel
theorem d_B_join_134 : decode prog_2_method_6_code 134 = .ok (.iaload, 1) := by decide +kernel
theorem d_B_join_135 : decode prog_2_method_6_code 135 = .ok (.iconst 1, 1) := by decide +kernel
theorem d_B_join_136 : decode prog_2_method_6_code 136 = .ok (.iadd, 1) := by decide +kernel
theorem d_B_join_137 : decode prog_2_method_6_code 137 = .ok (.iastore, 1) := by decide +kernel
theorem d_B_join_138 : decode prog_2_method_6_code 138 = .ok (.aload_n 0, 1) := by decide +kernel
theorem d_B_join_139 : decode prog_2_method_6_code 139 = .ok (.getfield 38, 3) := by decide +kernel
theorem d_B_join_142 : decode prog_2_method_6_code 142 = .ok (.iload_n 1, 1) := by decide +kernel
theorem d_B_join_143 : decode prog_2_method_6_code 143 = .ok (.dup2, 1) := by decide +kernel
theorem d_B_join_144 : decode prog_2_method_6_code 144 = .ok (.iaload, 1) := by decide +kernel
theorem d_B_join_145 : decode prog_2_method_6_code 145 = .ok (.iconst 1, 1) := by decide +kernel
theorem d_B_join_146 : decode prog_2_method_6_code 146 = .ok (.iadd, 1) := by decide +kernel
theorem d_B_join_147 : decode prog_2_method_6_code 147 = .ok (.iastore, 1) := by decide +kernel
theorem d_B_join_148 : decode prog_2_method_6_code 148 = .ok (.aload_n 0, 1) := by decide +kernel
theorem d_B_join_149 : decode prog_2_method_6_code 149 = .ok (.dup, 1) := by decide +kernel
theorem d_B_join_150 : decode prog_2_method_6_code 150 = .ok (.getfield 50, 3) := by decide +kernel
theorem d_B_join_153 : decode prog_2_method_6_code 153 = .ok (.iconst 1, 1) := by decide +kernel
theorem d_B_join_154 : decode prog_2_method_6_code 154 = .ok (.iadd, 1) := by decide +kernel
theorem d_B_join_155 : decode prog_2_method_6_code 155 = .ok (.putfield 50, 3) := by decide +kernel
theorem d_B_join_158 : decode prog_2_method_6_code 158 = .ok (.iload 6, 2) := by decide +kernel
theorem d_B_join_160 : decode prog_2_method_6_code 160 = .ok (.ireturn, 1) := by decide +kernel
theorem d_B_has_0 : decode prog_2_method_3_code 0 = .ok (.iload_n 1, 1) := by decide +kernel
theorem d_B_has_1 : decode prog_2_method_3_code 1 = .ok (.ifCond .lt 15, 3) := by decide +kernel
theorem d_B_has_4 : decode prog_2_method_3_code 4 = .ok (.iload_n 1, 1) := by decide +kernel
theorem d_B_has_5 : decode prog_2_method_3_code 5 = .ok (.aload_n 0, 1) := by decide +kernel
theorem d_B_has_6 : decode prog_2_method_3_code 6 = .ok (.getfield 50, 3) := by decide +kernel
theorem d_B_has_9 : decode prog_2_method_3_code 9 = .ok (.if_icmp .ge 7, 3) := by decide +kernel
theorem d_B_has_12 : decode prog_2_method_3_code 12 = .ok (.iconst 1, 1) := by decide +kernel
theorem d_B_has_13 : decode prog_2_method_3_code 13 = .ok (.goto 4, 3) := by decide +kernel
theorem d_B_has_16 : decode prog_2_method_3_code 16 = .ok (.iconst 0, 1) := by decide +kernel
theorem d_B_has_17 : decode prog_2_method_3_code 17 = .ok (.ireturn, 1) := by decide +kernel
theorem d_B_slotsOf_0 : decode prog_2_method_8_code 0 = .ok (.iconst 0, 1) := by decide +kernel
theorem d_B_slotsOf_1 : decode prog_2_method_8_code 1 = .ok (.istore_n 2, 1) := by decide +kernel
theorem d_B_slotsOf_2 : decode prog_2_method_8_code 2 = .ok (.iconst 0, 1) := by decide +kernel
theorem d_B_slotsOf_3 : decode prog_2_method_8_code 3 = .ok (.istore_n 3, 1) := by decide +kernel
theorem d_B_slotsOf_4 : decode prog_2_method_8_code 4 = .ok (.iload_n 3, 1) := by decide +kernel
theorem d_B_slotsOf_5 : decode prog_2_method_8_code 5 = .ok (.aload_n 0, 1) := by decide +kernel
theorem d_B_slotsOf_6 : decode prog_2_method_8_code 6 = .ok (.getfield 50, 3) := by decide +kernel
theorem d_B_slotsOf_9 : decode prog_2_method_8_code 9 = .ok (.if_icmp .ge 24, 3) := by decide +kernel
theorem d_B_slotsOf_12 : decode prog_2_method_8_code 12 = .ok (.iload_n 2, 1) := by decide +kernel
theorem d_B_slotsOf_13 : decode prog_2_method_8_code 13 = .ok (.iload_n 1, 1) := by decide +kernel
theorem d_B_slotsOf_14 : decode prog_2_method_8_code 14 = .ok (.iload_n 3, 1) := by decide +kernel
theorem d_B_slotsOf_15 : decode prog_2_method_8_code 15 = .ok (.iushr, 1) := by decide +kernel
theorem d_B_slotsOf_16 : decode prog_2_method_8_code 16 = .ok (.iconst 1, 1) := by decide +kernel
theorem d_B_slotsOf_17 : decode prog_2_method_8_code 17 = .ok (.iand, 1) := by decide +kernel
theorem d_B_slotsOf_18 : decode prog_2_method_8_code 18 = .ok (.aload_n 0, 1) := by decide +kernel
theorem d_B_slotsOf_19 : decode prog_2_method_8_code 19 = .ok (.getfield 25, 3) := by decide +kernel
theorem d_B_slotsOf_22 : decode prog_2_method_8_code 22 = .ok (.iload_n 3, 1) := by decide +kernel
theorem d_B_slotsOf_23 : decode prog_2_method_8_code 23 = .ok (.iaload, 1) := by decide +kernel
theorem d_B_slotsOf_24 : decode prog_2_method_8_code 24 = .ok (.ishl, 1) := by decide +kernel
theorem d_B_slotsOf_25 : decode prog_2_method_8_code 25 = .ok (.ior, 1) := by decide +kernel
theorem d_B_slotsOf_26 : decode prog_2_method_8_code 26 = .ok (.istore_n 2, 1) := by decide +kernel
theorem d_B_slotsOf_27 : decode prog_2_method_8_code 27 = .ok (.iinc 3 1, 3) := by decide +kernel
theorem d_B_slotsOf_30 : decode prog_2_method_8_code 30 = .ok (.goto (-26), 3) := by decide +kernel
theorem d_B_slotsOf_33 : decode prog_2_method_8_code 33 = .ok (.iload_n 2, 1) := by decide +kernel
theorem d_B_slotsOf_34 : decode prog_2_method_8_code 34 = .ok (.ireturn, 1) := by decide +kernel
theorem d_B_partOf_0 : decode prog_2_method_2_code 0 = .ok (.iload_n 1, 1) := by decide +kernel
theorem d_B_partOf_1 : decode prog_2_method_2_code 1 = .ok (.iload_n 0, 1) := by decide +kernel
theorem d_B_partOf_2 : decode prog_2_method_2_code 2 = .ok (.bipush 8, 2) := by decide +kernel
theorem d_B_partOf_4 : decode prog_2_method_2_code 4 = .ok (.imul, 1) := by decide +kernel
theorem d_B_partOf_5 : decode prog_2_method_2_code 5 = .ok (.iushr, 1) := by decide +kernel
theorem d_B_partOf_6 : decode prog_2_method_2_code 6 = .ok (.sipush 255, 3) := by decide +kernel
theorem d_B_partOf_9 : decode prog_2_method_2_code 9 = .ok (.iand, 1) := by decide +kernel
theorem d_B_partOf_10 : decode prog_2_method_2_code 10 = .ok (.ireturn, 1) := by decide +kernel
theorem d_B_hasSet_0 : decode prog_2_method_4_code 0 = .ok (.iload_n 1, 1) := by decide +kernel
theorem d_B_hasSet_1 : decode prog_2_method_4_code 1 = .ok (.ifCond .lt 16, 3) := by decide +kernel
theorem d_B_hasSet_4 : decode prog_2_method_4_code 4 = .ok (.iload_n 1, 1) := by decide +kernel
theorem d_B_hasSet_5 : decode prog_2_method_4_code 5 = .ok (.aload_n 0, 1) := by decide +kernel
theorem d_B_hasSet_6 : decode prog_2_method_4_code 6 = .ok (.getfield 50, 3) := by decide +kernel
theorem d_B_hasSet_9 : decode prog_2_method_4_code 9 = .ok (.iushr, 1) := by decide +kernel
theorem d_B_hasSet_10 : decode prog_2_method_4_code 10 = .ok (.ifCond .ne 7, 3) := by decide +kernel
theorem d_B_hasSet_13 : decode prog_2_method_4_code 13 = .ok (.iconst 1, 1) := by decide +kernel
theorem d_B_hasSet_14 : decode prog_2_method_4_code 14 = .ok (.goto 4, 3) := by decide +kernel
theorem d_B_hasSet_17 : decode prog_2_method_4_code 17 = .ok (.iconst 0, 1) := by decide +kernel
theorem d_B_hasSet_18 : decode prog_2_method_4_code 18 = .ok (.ireturn, 1) := by decide +kernel
theorem d_B_setOf_0 : decode prog_2_method_9_code 0 = .ok (.iconst 0, 1) := by decide +kernel
theorem d_B_setOf_1 : decode prog_2_method_9_code 1 = .ok (.istore_n 2, 1) := by decide +kernel
theorem d_B_setOf_2 : decode prog_2_method_9_code 2 = .ok (.iconst 0, 1) := by decide +kernel
theorem d_B_setOf_3 : decode prog_2_method_9_code 3 = .ok (.istore_n 3, 1) := by decide +kernel
theorem d_B_setOf_4 : decode prog_2_method_9_code 4 = .ok (.iload_n 3, 1) := by decide +kernel
theorem d_B_setOf_5 : decode prog_2_method_9_code 5 = .ok (.aload_n 0, 1) := by decide +kernel
theorem d_B_setOf_6 : decode prog_2_method_9_code 6 = .ok (.getfield 50, 3) := by decide +kernel
theorem d_B_setOf_9 : decode prog_2_method_9_code 9 = .ok (.if_icmp .ge 24, 3) := by decide +kernel
theorem d_B_setOf_12 : decode prog_2_method_9_code 12 = .ok (.iload_n 2, 1) := by decide +kernel
theorem d_B_setOf_13 : decode prog_2_method_9_code 13 = .ok (.iload_n 1, 1) := by decide +kernel
theorem d_B_setOf_14 : decode prog_2_method_9_code 14 = .ok (.aload_n 0, 1) := by decide +kernel
theorem d_B_setOf_15 : decode prog_2_method_9_code 15 = .ok (.getfield 25, 3) := by decide +kernel
theorem d_B_setOf_18 : decode prog_2_method_9_code 18 = .ok (.iload_n 3, 1) := by decide +kernel
theorem d_B_setOf_19 : decode prog_2_method_9_code 19 = .ok (.iaload, 1) := by decide +kernel
theorem d_B_setOf_20 : decode prog_2_method_9_code 20 = .ok (.iushr, 1) := by decide +kernel
theorem d_B_setOf_21 : decode prog_2_method_9_code 21 = .ok (.iconst 1, 1) := by decide +kernel
theorem d_B_setOf_22 : decode prog_2_method_9_code 22 = .ok (.iand, 1) := by decide +kernel
theorem d_B_setOf_23 : decode prog_2_method_9_code 23 = .ok (.iload_n 3, 1) := by decide +kernel
theorem d_B_setOf_24 : decode prog_2_method_9_code 24 = .ok (.ishl, 1) := by decide +kernel
theorem d_B_setOf_25 : decode prog_2_method_9_code 25 = .ok (.ior, 1) := by decide +kernel
theorem d_B_setOf_26 : decode prog_2_method_9_code 26 = .ok (.istore_n 2, 1) := by decide +kernel
theorem d_B_setOf_27 : decode prog_2_method_9_code 27 = .ok (.iinc 3 1, 3) := by decide +kernel
theorem d_B_setOf_30 : decode prog_2_method_9_code 30 = .ok (.goto (-26), 3) := by decide +kernel
theorem d_B_setOf_33 : decode prog_2_method_9_code 33 = .ok (.iload_n 2, 1) := by decide +kernel
theorem d_B_setOf_34 : decode prog_2_method_9_code 34 = .ok (.ireturn, 1) := by decide +kernel
theorem d_B_setOfPart_0 : decode prog_2_method_10_code 0 = .ok (.aload_n 0, 1) := by decide +kernel
theorem d_B_setOfPart_1 : decode prog_2_method_10_code 1 = .ok (.iload_n 2, 1) := by decide +kernel
theorem d_B_setOfPart_2 : decode prog_2_method_10_code 2 = .ok (.iload_n 1, 1) := by decide +kernel
theorem d_B_setOfPart_3 : decode prog_2_method_10_code 3 = .ok (.bipush 8, 2) := by decide +kernel
theorem d_B_setOfPart_5 : decode prog_2_method_10_code 5 = .ok (.imul, 1) := by decide +kernel
theorem d_B_setOfPart_6 : decode prog_2_method_10_code 6 = .ok (.ishl, 1) := by decide +kernel
theorem d_B_setOfPart_7 : decode prog_2_method_10_code 7 = .ok (.invokevirtual 54, 3) := by decide +kernel
theorem d_B_setOfPart_10 : decode prog_2_method_10_code 10 = .ok (.ireturn, 1) := by decide +kernel
theorem d_B_indexOf_0 : decode prog_2_method_7_code 0 = .ok (.aload_n 0, 1) := by decide +kernel
theorem d_B_indexOf_1 : decode prog_2_method_7_code 1 = .ok (.getfield 25, 3) := by decide +kernel
theorem d_B_indexOf_4 : decode prog_2_method_7_code 4 = .ok (.iload_n 1, 1) := by decide +kernel
theorem d_B_indexOf_5 : decode prog_2_method_7_code 5 = .ok (.iaload, 1) := by decide +kernel
theorem d_B_indexOf_6 : decode prog_2_method_7_code 6 = .ok (.aload_n 0, 1) := by decide +kernel
theorem d_B_indexOf_7 : decode prog_2_method_7_code 7 = .ok (.getfield 13, 3) := by decide +kernel
theorem d_B_indexOf_10 : decode prog_2_method_7_code 10 = .ok (.iload_n 1, 1) := by decide +kernel
theorem d_B_indexOf_11 : decode prog_2_method_7_code 11 = .ok (.iaload, 1) := by decide +kernel
theorem d_B_indexOf_12 : decode prog_2_method_7_code 12 = .ok (.bipush 8, 2) := by decide +kernel
theorem d_B_indexOf_14 : decode prog_2_method_7_code 14 = .ok (.imul, 1) := by decide +kernel
theorem d_B_indexOf_15 : decode prog_2_method_7_code 15 = .ok (.isub, 1) := by decide +kernel
theorem d_B_indexOf_16 : decode prog_2_method_7_code 16 = .ok (.ireturn, 1) := by decide +kernel
