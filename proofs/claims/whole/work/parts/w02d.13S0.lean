theorem d_S_init_0 : decode prog_1_method_1_code 0 = .ok (.aload_n 0, 1) := by decide +kernel
theorem d_S_init_1 : decode prog_1_method_1_code 1 = .ok (.invokespecial 1, 3) := by decide +kernel
theorem d_S_init_4 : decode prog_1_method_1_code 4 = .ok (.aload_n 0, 1) := by decide +kernel
theorem d_S_init_5 : decode prog_1_method_1_code 5 = .ok (.new 7, 3) := by decide +kernel
theorem d_S_init_8 : decode prog_1_method_1_code 8 = .ok (.dup, 1) := by decide +kernel
theorem d_S_init_9 : decode prog_1_method_1_code 9 = .ok (.invokespecial 9, 3) := by decide +kernel
theorem d_S_init_12 : decode prog_1_method_1_code 12 = .ok (.putfield 10, 3) := by decide +kernel
theorem d_S_init_15 : decode prog_1_method_1_code 15 = .ok (.aload_n 0, 1) := by decide +kernel
theorem d_S_init_16 : decode prog_1_method_1_code 16 = .ok (.new 16, 3) := by decide +kernel
theorem d_S_init_19 : decode prog_1_method_1_code 19 = .ok (.dup, 1) := by decide +kernel
theorem d_S_init_20 : decode prog_1_method_1_code 20 = .ok (.invokespecial 18, 3) := by decide +kernel
theorem d_S_init_23 : decode prog_1_method_1_code 23 = .ok (.putfield 19, 3) := by decide +kernel
theorem d_S_init_26 : decode prog_1_method_1_code 26 = .ok (.aload_n 0, 1) := by decide +kernel
theorem d_S_init_27 : decode prog_1_method_1_code 27 = .ok (.new 23, 3) := by decide +kernel
theorem d_S_init_30 : decode prog_1_method_1_code 30 = .ok (.dup, 1) := by decide +kernel
theorem d_S_init_31 : decode prog_1_method_1_code 31 = .ok (.invokespecial 25, 3) := by decide +kernel
theorem d_S_init_34 : decode prog_1_method_1_code 34 = .ok (.putfield 26, 3) := by decide +kernel
theorem d_S_init_37 : decode prog_1_method_1_code 37 = .ok (.aload_n 0, 1) := by decide +kernel
theorem d_S_init_38 : decode prog_1_method_1_code 38 = .ok (.iconst 4, 1) := by decide +kernel
theorem d_S_init_39 : decode prog_1_method_1_code 39 = .ok (.anewarray 30, 3) := by decide +kernel
theorem d_S_init_42 : decode prog_1_method_1_code 42 = .ok (.putfield 32, 3) := by decide +kernel
theorem d_S_init_45 : decode prog_1_method_1_code 45 = .ok (.iconst 0, 1) := by decide +kernel
theorem d_S_init_46 : decode prog_1_method_1_code 46 = .ok (.istore_n 1, 1) := by decide +kernel
theorem d_S_init_47 : decode prog_1_method_1_code 47 = .ok (.iload_n 1, 1) := by decide +kernel
theorem d_S_init_48 : decode prog_1_method_1_code 48 = .ok (.iconst 4, 1) := by decide +kernel
theorem d_S_init_49 : decode prog_1_method_1_code 49 = .ok (.if_icmp .ge 31, 3) := by decide +kernel
theorem d_S_init_52 : decode prog_1_method_1_code 52 = .ok (.aload_n 0, 1) := by decide +kernel
theorem d_S_init_53 : decode prog_1_method_1_code 53 = .ok (.getfield 32, 3) := by decide +kernel
theorem d_S_init_56 : decode prog_1_method_1_code 56 = .ok (.iload_n 1, 1) := by decide +kernel
theorem d_S_init_57 : decode prog_1_method_1_code 57 = .ok (.new 30, 3) := by decide +kernel
theorem d_S_init_60 : decode prog_1_method_1_code 60 = .ok (.dup, 1) := by decide +kernel
theorem d_S_init_61 : decode prog_1_method_1_code 61 = .ok (.iload_n 1, 1) := by decide +kernel
theorem d_S_init_62 : decode prog_1_method_1_code 62 = .ok (.aload_n 0, 1) := by decide +kernel
theorem d_S_init_63 : decode prog_1_method_1_code 63 = .ok (.getfield 10, 3) := by decide +kernel
theorem d_S_init_66 : decode prog_1_method_1_code 66 = .ok (.aload_n 0, 1) := by decide +kernel
theorem d_S_init_67 : decode prog_1_method_1_code 67 = .ok (.getfield 19, 3) := by decide +kernel
theorem d_S_init_70 : decode prog_1_method_1_code 70 = .ok (.invokespecial 36, 3) := by decide +kernel
theorem d_S_init_73 : decode prog_1_method_1_code 73 = .ok (.aastore, 1) := by decide +kernel
theorem d_S_init_74 : decode prog_1_method_1_code 74 = .ok (.iinc 1 1, 3) := by decide +kernel
theorem d_S_init_77 : decode prog_1_method_1_code 77 = .ok (.goto (-30), 3) := by decide +kernel
theorem d_S_init_80 : decode prog_1_method_1_code 80 = .ok (.aload_n 0, 1) := by decide +kernel
theorem d_S_init_81 : decode prog_1_method_1_code 81 = .ok (.new 39, 3) := by decide +kernel
theorem d_S_init_84 : decode prog_1_method_1_code 84 = .ok (.dup, 1) := by decide +kernel
theorem d_S_init_85 : decode prog_1_method_1_code 85 = .ok (.aload_n 0, 1) := by decide +kernel
theorem d_S_init_86 : decode prog_1_method_1_code 86 = .ok (.getfield 10, 3) := by decide +kernel
theorem d_S_init_89 : decode prog_1_method_1_code 89 = .ok (.aload_n 0, 1) := by decide +kernel
theorem d_S_init_90 : decode prog_1_method_1_code 90 = .ok (.getfield 19, 3) := by decide +kernel
theorem d_S_init_93 : decode prog_1_method_1_code 93 = .ok (.aload_n 0, 1) := by decide +kernel
theorem d_S_init_94 : decode prog_1_method_1_code 94 = .ok (.getfield 26, 3) := by decide +kernel
theorem d_S_init_97 : decode prog_1_method_1_code 97 = .ok (.aload_n 0, 1) := by decide +kernel
theorem d_S_init_98 : decode prog_1_method_1_code 98 = .ok (.getfield 32, 3) := by decide +kernel
theorem d_S_init_101 : decode prog_1_method_1_code 101 = .ok (.invokespecial 41, 3) := by decide +kernel
theorem d_S_init_104 : decode prog_1_method_1_code 104 = .ok (.putfield 44, 3) := by decide +kernel
theorem d_S_init_107 : decode prog_1_method_1_code 107 = .ok (.aload_n 0, 1) := by decide +kernel
theorem d_S_init_108 : decode prog_1_method_1_code 108 = .ok (.new 48, 3) := by decide +kernel
theorem d_S_init_111 : decode prog_1_method_1_code 111 = .ok (.dup, 1) := by decide +kernel
theorem d_S_init_112 : decode prog_1_method_1_code 112 = .ok (.aload_n 0, 1) := by decide +kernel
theorem d_S_init_113 : decode prog_1_method_1_code 113 = .ok (.getfield 10, 3) := by decide +kernel
theorem d_S_init_116 : decode prog_1_method_1_code 116 = .ok (.aload_n 0, 1) := by decide +kernel
theorem d_S_init_117 : decode prog_1_method_1_code 117 = .ok (.getfield 19, 3) := by decide +kernel
theorem d_S_init_120 : decode prog_1_method_1_code 120 = .ok (.aload_n 0, 1) := by decide +kernel
theorem d_S_init_121 : decode prog_1_method_1_code 121 = .ok (.getfield 26, 3) := by decide +kernel
theorem d_S_init_124 : decode prog_1_method_1_code 124 = .ok (.aload_n 0, 1) := by decide +kernel
theorem d_S_init_125 : decode prog_1_method_1_code 125 = .ok (.getfield 44, 3) := by decide +kernel
theorem d_S_init_128 : decode prog_1_method_1_code 128 = .ok (.invokespecial 50, 3) := by decide +kernel
theorem d_S_init_131 : decode prog_1_method_1_code 131 = .ok (.putfield 53, 3) := by decide +kernel
theorem d_S_init_134 : decode prog_1_method_1_code 134 = .ok (.aload_n 0, 1) := by decide +kernel
theorem d_S_init_135 : decode prog_1_method_1_code 135 = .ok (.new 57, 3) := by decide +kernel
theorem d_S_init_138 : decode prog_1_method_1_code 138 = .ok (.dup, 1) := by decide +kernel
theorem d_S_init_139 : decode prog_1_method_1_code 139 = .ok (.aload_n 0, 1) := by decide +kernel
theorem d_S_init_140 : decode prog_1_method_1_code 140 = .ok (.getfield 19, 3) := by decide +kernel
theorem d_S_init_143 : decode prog_1_method_1_code 143 = .ok (.aload_n 0, 1) := by decide +kernel
theorem d_S_init_144 : decode prog_1_method_1_code 144 = .ok (.getfield 26, 3) := by decide +kernel
theorem d_S_init_147 : decode prog_1_method_1_code 147 = .ok (.aload_n 0, 1) := by decide +kernel
theorem d_S_init_148 : decode prog_1_method_1_code 148 = .ok (.getfield 44, 3) := by decide +kernel
theorem d_S_init_151 : decode prog_1_method_1_code 151 = .ok (.aload_n 0, 1) := by decide +kernel
theorem d_S_init_152 : decode prog_1_method_1_code 152 = .ok (.getfield 53, 3) := by decide +kernel
theorem d_S_init_155 : decode prog_1_method_1_code 155 = .ok (.invokespecial 59, 3) := by decide +kernel
theorem d_S_init_158 : decode prog_1_method_1_code 158 = .ok (.putfield 62, 3) := by decide +kernel
theorem d_S_init_161 : decode prog_1_method_1_code 161 = .ok (.aload_n 0, 1) := by decide +kernel
theorem d_S_init_162 : decode prog_1_method_1_code 162 = .ok (.new 66, 3) := by decide +kernel
theorem d_S_init_165 : decode prog_1_method_1_code 165 = .ok (.dup, 1) := by decide +kernel
theorem d_S_init_166 : decode prog_1_method_1_code 166 = .ok (.aload_n 0, 1) := by decide +kernel
theorem d_S_init_167 : decode prog_1_method_1_code 167 = .ok (.getfield 10, 3) := by decide +kernel
theorem d_S_init_170 : decode prog_1_method_1_code 170 = .ok (.aload_n 0, 1) := by decide +kernel
theorem d_S_init_171 : decode prog_1_method_1_code 171 = .ok (.getfield 19, 3) := by decide +kernel
theorem d_S_init_174 : decode prog_1_method_1_code 174 = .ok (.aload_n 0, 1) := by decide +kernel
theorem d_S_init_175 : decode prog_1_method_1_code 175 = .ok (.getfield 32, 3) := by decide +kernel
theorem d_S_init_178 : decode prog_1_method_1_code 178 = .ok (.invokespecial 68, 3) := by decide +kernel
theorem d_S_init_181 : decode prog_1_method_1_code 181 = .ok (.putfield 71, 3) := by decide +kernel
theorem d_S_init_184 : decode prog_1_method_1_code 184 = .ok (.aload_n 0, 1) := by decide +kernel
theorem d_S_init_185 : decode prog_1_method_1_code 185 = .ok (.new 75, 3) := by decide +kernel
theorem d_S_init_188 : decode prog_1_method_1_code 188 = .ok (.dup, 1) := by decide +kernel
theorem d_S_init_189 : decode prog_1_method_1_code 189 = .ok (.invokespecial 77, 3) := by decide +kernel
theorem d_S_init_192 : decode prog_1_method_1_code 192 = .ok (.putfield 78, 3) := by decide +kernel
theorem d_S_init_195 : decode prog_1_method_1_code 195 = .ok (.aload_n 0, 1) := by decide +kernel
theorem d_S_init_196 : decode prog_1_method_1_code 196 = .ok (.new 82, 3) := by decide +kernel
theorem d_S_init_199 : decode prog_1_method_1_code 199 = .ok (.dup, 1) := by decide +kernel
theorem d_S_init_200 : decode prog_1_method_1_code 200 = .ok (.invokespecial 84, 3) := by decide +kernel
theorem d_S_init_203 : decode prog_1_method_1_code 203 = .ok (.putfield 85, 3) := by decide +kernel
theorem d_S_init_206 : decode prog_1_method_1_code 206 = .ok (.aload_n 0, 1) := by decide +kernel
theorem d_S_init_207 : decode prog_1_method_1_code 207 = .ok (.new 89, 3) := by decide +kernel
theorem d_S_init_210 : decode prog_1_method_1_code 210 = .ok (.dup, 1) := by decide +kernel
theorem d_S_init_211 : decode prog_1_method_1_code 211 = .ok (.invokespecial 91, 3) := by decide +kernel
theorem d_S_init_214 : decode prog_1_method_1_code 214 = .ok (.putfield 92, 3) := by decide +kernel
theorem d_S_init_217 : decode prog_1_method_1_code 217 = .ok (.aload_n 0, 1) := by decide +kernel
theorem d_S_init_218 : decode prog_1_method_1_code 218 = .ok (.iconst 0, 1) := by decide +kernel
theorem d_S_init_219 : decode prog_1_method_1_code 219 = .ok (.putfield 96, 3) := by decide +kernel
theorem d_S_init_222 : decode prog_1_method_1_code 222 = .ok (.return_, 1) := by decide +kernel
theorem d_S_person_0 : decode prog_1_method_2_code 0 = .ok (.iload_n 1, 1) := by decide +kernel
theorem d_S_person_1 : decode prog_1_method_2_code 1 = .ok (.ifCond .lt 20, 3) := by decide +kernel
theorem d_S_person_4 : decode prog_1_method_2_code 4 = .ok (.iload_n 1, 1) := by decide +kernel
theorem d_S_person_5 : decode prog_1_method_2_code 5 = .ok (.iconst 4, 1) := by decide +kernel
theorem d_S_person_6 : decode prog_1_method_2_code 6 = .ok (.if_icmp .ge 15, 3) := by decide +kernel
theorem d_S_person_9 : decode prog_1_method_2_code 9 = .ok (.aload_n 0, 1) := by decide +kernel
theorem d_S_person_10 : decode prog_1_method_2_code 10 = .ok (.getfield 19, 3) := by decide +kernel
theorem d_S_person_13 : decode prog_1_method_2_code 13 = .ok (.getfield 100, 3) := by decide +kernel
theorem d_S_person_16 : decode prog_1_method_2_code 16 = .ok (.bipush 7, 2) := by decide +kernel
theorem d_S_person_18 : decode prog_1_method_2_code 18 = .ok (.if_icmp .lt 5, 3) := by decide +kernel
theorem d_S_person_21 : decode prog_1_method_2_code 21 = .ok (.iconst (-1), 1) := by decide +kernel
theorem d_S_person_22 : decode prog_1_method_2_code 22 = .ok (.ireturn, 1) := by decide +kernel
theorem d_S_person_23 : decode prog_1_method_2_code 23 = .ok (.aload_n 0, 1) := by decide +kernel
theorem d_S_person_24 : decode prog_1_method_2_code 24 = .ok (.getfield 62, 3) := by decide +kernel
theorem d_S_person_27 : decode prog_1_method_2_code 27 = .ok (.iconst 0, 1) := by decide +kernel
theorem d_S_person_28 : decode prog_1_method_2_code 28 = .ok (.putfield 103, 3) := by decide +kernel
theorem d_S_person_31 : decode prog_1_method_2_code 31 = .ok (.aload_n 0, 1) := by decide +kernel
theorem d_S_person_32 : decode prog_1_method_2_code 32 = .ok (.getfield 19, 3) := by decide +kernel
theorem d_S_person_35 : decode prog_1_method_2_code 35 = .ok (.iload_n 1, 1) := by decide +kernel
theorem d_S_person_36 : decode prog_1_method_2_code 36 = .ok (.invokevirtual 107, 3) := by decide +kernel
theorem d_S_person_39 : decode prog_1_method_2_code 39 = .ok (.ireturn, 1) := by decide +kernel
theorem d_S_office_0 : decode prog_1_method_3_code 0 = .ok (.aload_n 0, 1) := by decide +kernel
theorem d_S_office_1 : decode prog_1_method_3_code 1 = .ok (.getfield 96, 3) := by decide +kernel
theorem d_S_office_4 : decode prog_1_method_3_code 4 = .ok (.iconst 4, 1) := by decide +kernel
theorem d_S_office_5 : decode prog_1_method_3_code 5 = .ok (.if_icmp .lt 5, 3) := by decide +kernel
theorem d_S_office_8 : decode prog_1_method_3_code 8 = .ok (.iconst (-1), 1) := by decide +kernel
theorem d_S_office_9 : decode prog_1_method_3_code 9 = .ok (.ireturn, 1) := by decide +kernel
theorem d_S_office_10 : decode prog_1_method_3_code 10 = .ok (.aload_n 0, 1) := by decide +kernel
theorem d_S_office_11 : decode prog_1_method_3_code 11 = .ok (.getfield 62, 3) := by decide +kernel
theorem d_S_office_14 : decode prog_1_method_3_code 14 = .ok (.iconst 0, 1) := by decide +kernel
theorem d_S_office_15 : decode prog_1_method_3_code 15 = .ok (.putfield 103, 3) := by decide +kernel
theorem d_S_office_18 : decode prog_1_method_3_code 18 = .ok (.aload_n 0, 1) := by decide +kernel
theorem d_S_office_19 : decode prog_1_method_3_code 19 = .ok (.dup, 1) := by decide +kernel
theorem d_S_office_20 : decode prog_1_method_3_code 20 = .ok (.getfield 96, 3) := by decide +kernel
theorem d_S_office_23 : decode prog_1_method_3_code 23 = .ok (.iconst 1, 1) := by decide +kernel
theorem d_S_office_24 : decode prog_1_method_3_code 24 = .ok (.iadd, 1) := by decide +kernel
theorem d_S_office_25 : decode prog_1_method_3_code 25 = .ok (.putfield 96, 3) := by decide +kernel
theorem d_S_office_28 : decode prog_1_method_3_code 28 = .ok (.aload_n 0, 1) := by decide +kernel
theorem d_S_office_29 : decode prog_1_method_3_code 29 = .ok (.getfield 96, 3) := by decide +kernel
theorem d_S_office_32 : decode prog_1_method_3_code 32 = .ok (.iconst 1, 1) := by decide +kernel
theorem d_S_office_33 : decode prog_1_method_3_code 33 = .ok (.isub, 1) := by decide +kernel
theorem d_S_office_34 : decode prog_1_method_3_code 34 = .ok (.ireturn, 1) := by decide +kernel
theorem d_S_hasOffice_0 : decode prog_1_method_9_code 0 = .ok (.iload_n 1, 1) := by decide +kernel
theorem d_S_hasOffice_1 : decode prog_1_method_9_code 1 = .ok (.ifCond .lt 15, 3) := by decide +kernel
theorem d_S_hasOffice_4 : decode prog_1_method_9_code 4 = .ok (.iload_n 1, 1) := by decide +kernel
theorem d_S_hasOffice_5 : decode prog_1_method_9_code 5 = .ok (.aload_n 0, 1) := by decide +kernel
theorem d_S_hasOffice_6 : decode prog_1_method_9_code 6 = .ok (.getfield 96, 3) := by decide +kernel
theorem d_S_hasOffice_9 : decode prog_1_method_9_code 9 = .ok (.if_icmp .ge 7, 3) := by decide +kernel
theorem d_S_hasOffice_12 : decode prog_1_method_9_code 12 = .ok (.iconst 1, 1) := by decide +kernel
theorem d_S_hasOffice_13 : decode prog_1_method_9_code 13 = .ok (.goto 4, 3) := by decide +kernel
theorem d_S_hasOffice_16 : decode prog_1_method_9_code 16 = .ok (.iconst 0, 1) := by decide +kernel
theorem d_S_hasOffice_17 : decode prog_1_method_9_code 17 = .ok (.ireturn, 1) := by decide +kernel
theorem d_S_bond_0 : decode prog_1_method_4_code 0 = .ok (.aload_n 0, 1) := by decide +kernel
theorem d_S_bond_1 : decode prog_1_method_4_code 1 = .ok (.getfield 19, 3) := by decide +kernel
theorem d_S_bond_4 : decode prog_1_method_4_code 4 = .ok (.iload_n 1, 1) := by decide +kernel
theorem d_S_bond_5 : decode prog_1_method_4_code 5 = .ok (.invokevirtual 111, 3) := by decide +kernel
theorem d_S_bond_8 : decode prog_1_method_4_code 8 = .ok (.ifCond .eq 23, 3) := by decide +kernel
theorem d_S_bond_11 : decode prog_1_method_4_code 11 = .ok (.aload_n 0, 1) := by decide +kernel
theorem d_S_bond_12 : decode prog_1_method_4_code 12 = .ok (.iload_n 2, 1) := by decide +kernel
theorem d_S_bond_13 : decode prog_1_method_4_code 13 = .ok (.invokevirtual 115, 3) := by decide +kernel
theorem d_S_bond_16 : decode prog_1_method_4_code 16 = .ok (.ifCond .eq 15, 3) := by decide +kernel
theorem d_S_bond_19 : decode prog_1_method_4_code 19 = .ok (.aload_n 0, 1) := by decide +kernel
theorem d_S_bond_20 : decode prog_1_method_4_code 20 = .ok (.getfield 10, 3) := by decide +kernel
theorem d_S_bond_23 : decode prog_1_method_4_code 23 = .ok (.iload_n 1, 1) := by decide +kernel
theorem d_S_bond_24 : decode prog_1_method_4_code 24 = .ok (.iload_n 2, 1) := by decide +kernel
theorem d_S_bond_25 : decode prog_1_method_4_code 25 = .ok (.invokevirtual 118, 3) := by decide +kernel
theorem d_S_bond_28 : decode prog_1_method_4_code 28 = .ok (.ifCond .ne 5, 3) := by decide +kernel
theorem d_S_bond_31 : decode prog_1_method_4_code 31 = .ok (.iconst (-1), 1) := by decide +kernel
theorem d_S_bond_32 : decode prog_1_method_4_code 32 = .ok (.ireturn, 1) := by decide +kernel
theorem d_S_bond_33 : decode prog_1_method_4_code 33 = .ok (.iload_n 3, 1) := by decide +kernel
theorem d_S_bond_34 : decode prog_1_method_4_code 34 = .ok (.ifCond .lt 33, 3) := by decide +kernel
theorem d_S_bond_37 : decode prog_1_method_4_code 37 = .ok (.iload_n 3, 1) := by decide +kernel
theorem d_S_bond_38 : decode prog_1_method_4_code 38 = .ok (.bipush 99, 2) := by decide +kernel
theorem d_S_bond_40 : decode prog_1_method_4_code 40 = .ok (.if_icmp .gt 27, 3) := by decide +kernel
theorem d_S_bond_43 : decode prog_1_method_4_code 43 = .ok (.iload 4, 2) := by decide +kernel
theorem d_S_bond_45 : decode prog_1_method_4_code 45 = .ok (.ifCond .lt 22, 3) := by decide +kernel
theorem d_S_bond_48 : decode prog_1_method_4_code 48 = .ok (.iload 4, 2) := by decide +kernel
theorem d_S_bond_50 : decode prog_1_method_4_code 50 = .ok (.bipush 9, 2) := by decide +kernel
theorem d_S_bond_52 : decode prog_1_method_4_code 52 = .ok (.if_icmp .gt 15, 3) := by decide +kernel
theorem d_S_bond_55 : decode prog_1_method_4_code 55 = .ok (.iload 5, 2) := by decide +kernel
theorem d_S_bond_57 : decode prog_1_method_4_code 57 = .ok (.ifCond .lt 10, 3) := by decide +kernel
theorem d_S_bond_60 : decode prog_1_method_4_code 60 = .ok (.iload 5, 2) := by decide +kernel
theorem d_S_bond_62 : decode prog_1_method_4_code 62 = .ok (.bipush 9, 2) := by decide +kernel
theorem d_S_bond_64 : decode prog_1_method_4_code 64 = .ok (.if_icmp .le 5, 3) := by decide +kernel
theorem d_S_bond_67 : decode prog_1_method_4_code 67 = .ok (.iconst (-1), 1) := by decide +kernel
theorem d_S_bond_68 : decode prog_1_method_4_code 68 = .ok (.ireturn, 1) := by decide +kernel
theorem d_S_bond_69 : decode prog_1_method_4_code 69 = .ok (.aload_n 0, 1) := by decide +kernel
theorem d_S_bond_70 : decode prog_1_method_4_code 70 = .ok (.getfield 62, 3) := by decide +kernel
theorem d_S_bond_73 : decode prog_1_method_4_code 73 = .ok (.iconst 0, 1) := by decide +kernel
theorem d_S_bond_74 : decode prog_1_method_4_code 74 = .ok (.putfield 103, 3) := by decide +kernel
theorem d_S_bond_77 : decode prog_1_method_4_code 77 = .ok (.aload_n 0, 1) := by decide +kernel
theorem d_S_bond_78 : decode prog_1_method_4_code 78 = .ok (.getfield 32, 3) := by decide +kernel
theorem d_S_bond_81 : decode prog_1_method_4_code 81 = .ok (.iload_n 2, 1) := by decide +kernel
theorem d_S_bond_82 : decode prog_1_method_4_code 82 = .ok (.aaload, 1) := by decide +kernel
theorem d_S_bond_83 : decode prog_1_method_4_code 83 = .ok (.invokevirtual 122, 3) := by decide +kernel
theorem d_S_bond_86 : decode prog_1_method_4_code 86 = .ok (.aload_n 0, 1) := by decide +kernel
theorem d_S_bond_87 : decode prog_1_method_4_code 87 = .ok (.getfield 10, 3) := by decide +kernel
theorem d_S_bond_90 : decode prog_1_method_4_code 90 = .ok (.iload_n 1, 1) := by decide +kernel
theorem d_S_bond_91 : decode prog_1_method_4_code 91 = .ok (.iload_n 2, 1) := by decide +kernel
theorem d_S_bond_92 : decode prog_1_method_4_code 92 = .ok (.iload_n 3, 1) := by decide +kernel
theorem d_S_bond_93 : decode prog_1_method_4_code 93 = .ok (.iload 4, 2) := by decide +kernel
theorem d_S_bond_95 : decode prog_1_method_4_code 95 = .ok (.iload 5, 2) := by decide +kernel
theorem d_S_bond_97 : decode prog_1_method_4_code 97 = .ok (.invokevirtual 125, 3) := by decide +kernel
theorem d_S_bond_100 : decode prog_1_method_4_code 100 = .ok (.ireturn, 1) := by decide +kernel
theorem d_S_list_0 : decode prog_1_method_5_code 0 = .ok (.aload_n 0, 1) := by decide +kernel
theorem d_S_list_1 : decode prog_1_method_5_code 1 = .ok (.getfield 10, 3) := by decide +kernel
theorem d_S_list_4 : decode prog_1_method_5_code 4 = .ok (.iload_n 1, 1) := by decide +kernel
theorem d_S_list_5 : decode prog_1_method_5_code 5 = .ok (.invokevirtual 128, 3) := by decide +kernel
theorem d_S_list_8 : decode prog_1_method_5_code 8 = .ok (.ifCond .eq 16, 3) := by decide +kernel
theorem d_S_list_11 : decode prog_1_method_5_code 11 = .ok (.aload_n 0, 1) := by decide +kernel
theorem d_S_list_12 : decode prog_1_method_5_code 12 = .ok (.getfield 19, 3) := by decide +kernel
theorem d_S_list_15 : decode prog_1_method_5_code 15 = .ok (.getfield 129, 3) := by decide +kernel
theorem d_S_list_18 : decode prog_1_method_5_code 18 = .ok (.iload_n 1, 1) := by decide +kernel
theorem d_S_list_19 : decode prog_1_method_5_code 19 = .ok (.iaload, 1) := by decide +kernel
theorem d_S_list_20 : decode prog_1_method_5_code 20 = .ok (.iconst (-1), 1) := by decide +kernel
theorem d_S_list_21 : decode prog_1_method_5_code 21 = .ok (.if_icmp .eq 5, 3) := by decide +kernel
theorem d_S_list_24 : decode prog_1_method_5_code 24 = .ok (.iconst (-1), 1) := by decide +kernel
theorem d_S_list_25 : decode prog_1_method_5_code 25 = .ok (.ireturn, 1) := by decide +kernel
theorem d_S_list_26 : decode prog_1_method_5_code 26 = .ok (.aload_n 0, 1) := by decide +kernel
theorem d_S_list_27 : decode prog_1_method_5_code 27 = .ok (.getfield 62, 3) := by decide +kernel
theorem d_S_list_30 : decode prog_1_method_5_code 30 = .ok (.iconst 0, 1) := by decide +kernel
theorem d_S_list_31 : decode prog_1_method_5_code 31 = .ok (.putfield 103, 3) := by decide +kernel
theorem d_S_list_34 : decode prog_1_method_5_code 34 = .ok (.aload_n 0, 1) := by decide +kernel
theorem d_S_list_35 : decode prog_1_method_5_code 35 = .ok (.getfield 19, 3) := by decide +kernel
theorem d_S_list_38 : decode prog_1_method_5_code 38 = .ok (.aload_n 0, 1) := by decide +kernel
theorem d_S_list_39 : decode prog_1_method_5_code 39 = .ok (.getfield 10, 3) := by decide +kernel
theorem d_S_list_42 : decode prog_1_method_5_code 42 = .ok (.getfield 133, 3) := by decide +kernel
theorem d_S_list_45 : decode prog_1_method_5_code 45 = .ok (.iload_n 1, 1) := by decide +kernel
theorem d_S_list_46 : decode prog_1_method_5_code 46 = .ok (.iaload, 1) := by decide +kernel
theorem d_S_list_47 : decode prog_1_method_5_code 47 = .ok (.iload_n 1, 1) := by decide +kernel
theorem d_S_list_48 : decode prog_1_method_5_code 48 = .ok (.iconst 1, 1) := by decide +kernel
theorem d_S_list_49 : decode prog_1_method_5_code 49 = .ok (.aload_n 0, 1) := by decide +kernel
theorem d_S_list_50 : decode prog_1_method_5_code 50 = .ok (.getfield 10, 3) := by decide +kernel
theorem d_S_list_53 : decode prog_1_method_5_code 53 = .ok (.getfield 136, 3) := by decide +kernel
theorem d_S_list_56 : decode prog_1_method_5_code 56 = .ok (.iload_n 1, 1) := by decide +kernel
theorem d_S_list_57 : decode prog_1_method_5_code 57 = .ok (.iaload, 1) := by decide +kernel
theorem d_S_list_58 : decode prog_1_method_5_code 58 = .ok (.ishl, 1) := by decide +kernel
theorem d_S_list_59 : decode prog_1_method_5_code 59 = .ok (.invokevirtual 139, 3) := by decide +kernel
theorem d_S_list_62 : decode prog_1_method_5_code 62 = .ok (.ireturn, 1) := by decide +kernel
theorem d_S_clear_0 : decode prog_1_method_6_code 0 = .ok (.aload_n 0, 1) := by decide +kernel
theorem d_S_clear_1 : decode prog_1_method_6_code 1 = .ok (.getfield 19, 3) := by decide +kernel
theorem d_S_clear_4 : decode prog_1_method_6_code 4 = .ok (.iload_n 1, 1) := by decide +kernel
theorem d_S_clear_5 : decode prog_1_method_6_code 5 = .ok (.invokevirtual 111, 3) := by decide +kernel
theorem d_S_clear_8 : decode prog_1_method_6_code 8 = .ok (.ifCond .ne 5, 3) := by decide +kernel
theorem d_S_clear_11 : decode prog_1_method_6_code 11 = .ok (.iconst (-1), 1) := by decide +kernel
theorem d_S_clear_12 : decode prog_1_method_6_code 12 = .ok (.ireturn, 1) := by decide +kernel
theorem d_S_clear_13 : decode prog_1_method_6_code 13 = .ok (.aload_n 0, 1) := by decide +kernel
theorem d_S_clear_14 : decode prog_1_method_6_code 14 = .ok (.getfield 62, 3) := by decide +kernel
theorem d_S_clear_17 : decode prog_1_method_6_code 17 = .ok (.iconst 0, 1) := by decide +kernel
theorem d_S_clear_18 : decode prog_1_method_6_code 18 = .ok (.putfield 103, 3) := by decide +kernel
theorem d_S_clear_21 : decode prog_1_method_6_code 21 = .ok (.aload_n 0, 1) := by decide +kernel
theorem d_S_clear_22 : decode prog_1_method_6_code 22 = .ok (.getfield 19, 3) := by decide +kernel
theorem d_S_clear_25 : decode prog_1_method_6_code 25 = .ok (.iload_n 1, 1) := by decide +kernel
theorem d_S_clear_26 : decode prog_1_method_6_code 26 = .ok (.invokevirtual 143, 3) := by decide +kernel
theorem d_S_clear_29 : decode prog_1_method_6_code 29 = .ok (.ireturn, 1) := by decide +kernel
theorem d_S_couple_0 : decode prog_1_method_7_code 0 = .ok (.aload_n 0, 1) := by decide +kernel
theorem d_S_couple_1 : decode prog_1_method_7_code 1 = .ok (.getfield 19, 3) := by decide +kernel
theorem d_S_couple_4 : decode prog_1_method_7_code 4 = .ok (.iload_n 1, 1) := by decide +kernel
theorem d_S_couple_5 : decode prog_1_method_7_code 5 = .ok (.invokevirtual 146, 3) := by decide +kernel
theorem d_S_couple_8 : decode prog_1_method_7_code 8 = .ok (.ifCond .eq 30, 3) := by decide +kernel
theorem d_S_couple_11 : decode prog_1_method_7_code 11 = .ok (.aload_n 0, 1) := by decide +kernel
theorem d_S_couple_12 : decode prog_1_method_7_code 12 = .ok (.getfield 19, 3) := by decide +kernel
theorem d_S_couple_15 : decode prog_1_method_7_code 15 = .ok (.iload_n 2, 1) := by decide +kernel
theorem d_S_couple_16 : decode prog_1_method_7_code 16 = .ok (.invokevirtual 146, 3) := by decide +kernel
theorem d_S_couple_19 : decode prog_1_method_7_code 19 = .ok (.ifCond .eq 19, 3) := by decide +kernel
theorem d_S_couple_22 : decode prog_1_method_7_code 22 = .ok (.iload_n 1, 1) := by decide +kernel
theorem d_S_couple_23 : decode prog_1_method_7_code 23 = .ok (.iload_n 2, 1) := by decide +kernel
theorem d_S_couple_24 : decode prog_1_method_7_code 24 = .ok (.if_icmp .eq 14, 3) := by decide +kernel
theorem d_S_couple_27 : decode prog_1_method_7_code 27 = .ok (.aload_n 0, 1) := by decide +kernel
theorem d_S_couple_28 : decode prog_1_method_7_code 28 = .ok (.getfield 26, 3) := by decide +kernel
theorem d_S_couple_31 : decode prog_1_method_7_code 31 = .ok (.getfield 149, 3) := by decide +kernel
theorem d_S_couple_34 : decode prog_1_method_7_code 34 = .ok (.iconst 2, 1) := by decide +kernel
theorem d_S_couple_35 : decode prog_1_method_7_code 35 = .ok (.if_icmp .lt 5, 3) := by decide +kernel
theorem d_S_couple_38 : decode prog_1_method_7_code 38 = .ok (.iconst (-1), 1) := by decide +kernel
theorem d_S_couple_39 : decode prog_1_method_7_code 39 = .ok (.ireturn, 1) := by decide +kernel
theorem d_S_couple_40 : decode prog_1_method_7_code 40 = .ok (.aload_n 0, 1) := by decide +kernel
theorem d_S_couple_41 : decode prog_1_method_7_code 41 = .ok (.getfield 62, 3) := by decide +kernel
theorem d_S_couple_44 : decode prog_1_method_7_code 44 = .ok (.iconst 0, 1) := by decide +kernel
theorem d_S_couple_45 : decode prog_1_method_7_code 45 = .ok (.putfield 103, 3) := by decide +kernel
theorem d_S_couple_48 : decode prog_1_method_7_code 48 = .ok (.aload_n 0, 1) := by decide +kernel
theorem d_S_couple_49 : decode prog_1_method_7_code 49 = .ok (.getfield 19, 3) := by decide +kernel
theorem d_S_couple_52 : decode prog_1_method_7_code 52 = .ok (.getfield 150, 3) := by decide +kernel
theorem d_S_couple_55 : decode prog_1_method_7_code 55 = .ok (.iload_n 1, 1) := by decide +kernel
theorem d_S_couple_56 : decode prog_1_method_7_code 56 = .ok (.aload_n 0, 1) := by decide +kernel
theorem d_S_couple_57 : decode prog_1_method_7_code 57 = .ok (.getfield 26, 3) := by decide +kernel
theorem d_S_couple_60 : decode prog_1_method_7_code 60 = .ok (.getfield 149, 3) := by decide +kernel
theorem d_S_couple_63 : decode prog_1_method_7_code 63 = .ok (.iastore, 1) := by decide +kernel
theorem d_S_couple_64 : decode prog_1_method_7_code 64 = .ok (.aload_n 0, 1) := by decide +kernel
theorem d_S_couple_65 : decode prog_1_method_7_code 65 = .ok (.getfield 19, 3) := by decide +kernel
theorem d_S_couple_68 : decode prog_1_method_7_code 68 = .ok (.getfield 150, 3) := by decide +kernel
theorem d_S_couple_71 : decode prog_1_method_7_code 71 = .ok (.iload_n 2, 1) := by decide +kernel
theorem d_S_couple_72 : decode prog_1_method_7_code 72 = .ok (.aload_n 0, 1) := by decide +kernel
theorem d_S_couple_73 : decode prog_1_method_7_code 73 = .ok (.getfield 26, 3) := by decide +kernel
theorem d_S_couple_76 : decode prog_1_method_7_code 76 = .ok (.getfield 149, 3) := by decide +kernel
theorem d_S_couple_79 : decode prog_1_method_7_code 79 = .ok (.iastore, 1) := by decide +kernel
theorem d_S_couple_80 : decode prog_1_method_7_code 80 = .ok (.aload_n 0, 1) := by decide +kernel
theorem d_S_couple_81 : decode prog_1_method_7_code 81 = .ok (.getfield 26, 3) := by decide +kernel
theorem d_S_couple_84 : decode prog_1_method_7_code 84 = .ok (.iload_n 1, 1) := by decide +kernel
theorem d_S_couple_85 : decode prog_1_method_7_code 85 = .ok (.iload_n 2, 1) := by decide +kernel
theorem d_S_couple_86 : decode prog_1_method_7_code 86 = .ok (.invokevirtual 153, 3) := by decide +kernel
theorem d_S_couple_89 : decode prog_1_method_7_code 89 = .ok (.ireturn, 1) := by decide +kernel
theorem d_S_isBondOrNoneOf_0 : decode prog_1_method_10_code 0 = .ok (.iload_n 1, 1) := by decide +kernel
theorem d_S_isBondOrNoneOf_1 : decode prog_1_method_10_code 1 = .ok (.iconst (-1), 1) := by decide +kernel
theorem d_S_isBondOrNoneOf_2 : decode prog_1_method_10_code 2 = .ok (.if_icmp .eq 27, 3) := by decide +kernel
theorem d_S_isBondOrNoneOf_5 : decode prog_1_method_10_code 5 = .ok (.aload_n 0, 1) := by decide +kernel
theorem d_S_isBondOrNoneOf_6 : decode prog_1_method_10_code 6 = .ok (.getfield 10, 3) := by decide +kernel
theorem d_S_isBondOrNoneOf_9 : decode prog_1_method_10_code 9 = .ok (.iload_n 1, 1) := by decide +kernel
theorem d_S_isBondOrNoneOf_10 : decode prog_1_method_10_code 10 = .ok (.invokevirtual 128, 3) := by decide +kernel
theorem d_S_isBondOrNoneOf_13 : decode prog_1_method_10_code 13 = .ok (.ifCond .eq 20, 3) := by decide +kernel
theorem d_S_isBondOrNoneOf_16 : decode prog_1_method_10_code 16 = .ok (.aload_n 0, 1) := by decide +kernel
theorem d_S_isBondOrNoneOf_17 : decode prog_1_method_10_code 17 = .ok (.getfield 10, 3) := by decide +kernel
theorem d_S_isBondOrNoneOf_20 : decode prog_1_method_10_code 20 = .ok (.getfield 133, 3) := by decide +kernel
theorem d_S_isBondOrNoneOf_23 : decode prog_1_method_10_code 23 = .ok (.iload_n 1, 1) := by decide +kernel
theorem d_S_isBondOrNoneOf_24 : decode prog_1_method_10_code 24 = .ok (.iaload, 1) := by decide +kernel
theorem d_S_isBondOrNoneOf_25 : decode prog_1_method_10_code 25 = .ok (.iload_n 2, 1) := by decide +kernel
theorem d_S_isBondOrNoneOf_26 : decode prog_1_method_10_code 26 = .ok (.if_icmp .ne 7, 3) := by decide +kernel
theorem d_S_isBondOrNoneOf_29 : decode prog_1_method_10_code 29 = .ok (.iconst 1, 1) := by decide +kernel
theorem d_S_isBondOrNoneOf_30 : decode prog_1_method_10_code 30 = .ok (.goto 4, 3) := by decide +kernel
theorem d_S_isBondOrNoneOf_33 : decode prog_1_method_10_code 33 = .ok (.iconst 0, 1) := by decide +kernel
theorem d_S_isBondOrNoneOf_34 : decode prog_1_method_10_code 34 = .ok (.ireturn, 1) := by decide +kernel
theorem d_S_pair_0 : decode prog_1_method_8_code 0 = .ok (.aload_n 0, 1) := by decide +kernel
theorem d_S_pair_1 : decode prog_1_method_8_code 1 = .ok (.getfield 26, 3) := by decide +kernel
theorem d_S_pair_4 : decode prog_1_method_8_code 4 = .ok (.iload_n 1, 1) := by decide +kernel
theorem d_S_pair_5 : decode prog_1_method_8_code 5 = .ok (.invokevirtual 156, 3) := by decide +kernel
theorem d_S_pair_8 : decode prog_1_method_8_code 8 = .ok (.ifCond .eq 13, 3) := by decide +kernel
theorem d_S_pair_11 : decode prog_1_method_8_code 11 = .ok (.iload_n 2, 1) := by decide +kernel
theorem d_S_pair_12 : decode prog_1_method_8_code 12 = .ok (.iconst (-1), 1) := by decide +kernel
theorem d_S_pair_13 : decode prog_1_method_8_code 13 = .ok (.if_icmp .ne 10, 3) := by decide +kernel
theorem d_S_pair_16 : decode prog_1_method_8_code 16 = .ok (.iload_n 3, 1) := by decide +kernel
theorem d_S_pair_17 : decode prog_1_method_8_code 17 = .ok (.iconst (-1), 1) := by decide +kernel
theorem d_S_pair_18 : decode prog_1_method_8_code 18 = .ok (.if_icmp .ne 5, 3) := by decide +kernel
theorem d_S_pair_21 : decode prog_1_method_8_code 21 = .ok (.iconst (-1), 1) := by decide +kernel
theorem d_S_pair_22 : decode prog_1_method_8_code 22 = .ok (.ireturn, 1) := by decide +kernel
theorem d_S_pair_23 : decode prog_1_method_8_code 23 = .ok (.aload_n 0, 1) := by decide +kernel
theorem d_S_pair_24 : decode prog_1_method_8_code 24 = .ok (.iload_n 2, 1) := by decide +kernel
theorem d_S_pair_25 : decode prog_1_method_8_code 25 = .ok (.aload_n 0, 1) := by decide +kernel
theorem d_S_pair_26 : decode prog_1_method_8_code 26 = .ok (.getfield 26, 3) := by decide +kernel
theorem d_S_pair_29 : decode prog_1_method_8_code 29 = .ok (.getfield 157, 3) := by decide +kernel
theorem d_S_pair_32 : decode prog_1_method_8_code 32 = .ok (.iload_n 1, 1) := by decide +kernel
theorem d_S_pair_33 : decode prog_1_method_8_code 33 = .ok (.iaload, 1) := by decide +kernel
theorem d_S_pair_34 : decode prog_1_method_8_code 34 = .ok (.invokevirtual 160, 3) := by decide +kernel
theorem d_S_pair_37 : decode prog_1_method_8_code 37 = .ok (.ifCond .eq 20, 3) := by decide +kernel
theorem d_S_pair_40 : decode prog_1_method_8_code 40 = .ok (.aload_n 0, 1) := by decide +kernel
theorem d_S_pair_41 : decode prog_1_method_8_code 41 = .ok (.iload_n 3, 1) := by decide +kernel
theorem d_S_pair_42 : decode prog_1_method_8_code 42 = .ok (.aload_n 0, 1) := by decide +kernel
theorem d_S_pair_43 : decode prog_1_method_8_code 43 = .ok (.getfield 26, 3) := by decide +kernel
theorem d_S_pair_46 : decode prog_1_method_8_code 46 = .ok (.getfield 163, 3) := by decide +kernel
theorem d_S_pair_49 : decode prog_1_method_8_code 49 = .ok (.iload_n 1, 1) := by decide +kernel
theorem d_S_pair_50 : decode prog_1_method_8_code 50 = .ok (.iaload, 1) := by decide +kernel
theorem d_S_pair_51 : decode prog_1_method_8_code 51 = .ok (.invokevirtual 160, 3) := by decide +kernel
theorem d_S_pair_54 : decode prog_1_method_8_code 54 = .ok (.ifCond .ne 5, 3) := by decide +kernel
theorem d_S_pair_57 : decode prog_1_method_8_code 57 = .ok (.iconst (-1), 1) := by decide +kernel
theorem d_S_pair_58 : decode prog_1_method_8_code 58 = .ok (.ireturn, 1) := by decide +kernel
theorem d_S_pair_59 : decode prog_1_method_8_code 59 = .ok (.iload_n 2, 1) := by decide +kernel
theorem d_S_pair_60 : decode prog_1_method_8_code 60 = .ok (.iconst (-1), 1) := by decide +kernel
theorem d_S_pair_61 : decode prog_1_method_8_code 61 = .ok (.if_icmp .ne 7, 3) := by decide +kernel
theorem d_S_pair_64 : decode prog_1_method_8_code 64 = .ok (.iconst 0, 1) := by decide +kernel
theorem d_S_pair_65 : decode prog_1_method_8_code 65 = .ok (.goto 6, 3) := by decide +kernel
theorem d_S_pair_68 : decode prog_1_method_8_code 68 = .ok (.iconst 1, 1) := by decide +kernel
theorem d_S_pair_69 : decode prog_1_method_8_code 69 = .ok (.iload_n 2, 1) := by decide +kernel
theorem d_S_pair_70 : decode prog_1_method_8_code 70 = .ok (.ishl, 1) := by decide +kernel
theorem d_S_pair_71 : decode prog_1_method_8_code 71 = .ok (.iload_n 3, 1) := by decide +kernel
theorem d_S_pair_72 : decode prog_1_method_8_code 72 = .ok (.iconst (-1), 1) := by decide +kernel
theorem d_S_pair_73 : decode prog_1_method_8_code 73 = .ok (.if_icmp .ne 7, 3) := by decide +kernel
theorem d_S_pair_76 : decode prog_1_method_8_code 76 = .ok (.iconst 0, 1) := by decide +kernel
theorem d_S_pair_77 : decode prog_1_method_8_code 77 = .ok (.goto 6, 3) := by decide +kernel
theorem d_S_pair_80 : decode prog_1_method_8_code 80 = .ok (.iconst 1, 1) := by decide +kernel
theorem d_S_pair_81 : decode prog_1_method_8_code 81 = .ok (.iload_n 3, 1) := by decide +kernel
theorem d_S_pair_82 : decode prog_1_method_8_code 82 = .ok (.ishl, 1) := by decide +kernel
theorem d_S_pair_83 : decode prog_1_method_8_code 83 = .ok (.ior, 1) := by decide +kernel
theorem d_S_pair_84 : decode prog_1_method_8_code 84 = .ok (.istore 4, 2) := by decide +kernel
theorem d_S_pair_86 : decode prog_1_method_8_code 86 = .ok (.aload_n 0, 1) := by decide +kernel
theorem d_S_pair_87 : decode prog_1_method_8_code 87 = .ok (.getfield 26, 3) := by decide +kernel
theorem d_S_pair_90 : decode prog_1_method_8_code 90 = .ok (.getfield 166, 3) := by decide +kernel
theorem d_S_pair_93 : decode prog_1_method_8_code 93 = .ok (.iload_n 1, 1) := by decide +kernel
theorem d_S_pair_94 : decode prog_1_method_8_code 94 = .ok (.iaload, 1) := by decide +kernel
theorem d_S_pair_95 : decode prog_1_method_8_code 95 = .ok (.bipush 8, 2) := by decide +kernel
theorem d_S_pair_97 : decode prog_1_method_8_code 97 = .ok (.if_icmp .ge 17, 3) := by decide +kernel
theorem d_S_pair_100 : decode prog_1_method_8_code 100 = .ok (.aload_n 0, 1) := by decide +kernel
theorem d_S_pair_101 : decode prog_1_method_8_code 101 = .ok (.getfield 26, 3) := by decide +kernel
theorem d_S_pair_104 : decode prog_1_method_8_code 104 = .ok (.iload_n 1, 1) := by decide +kernel
theorem d_S_pair_105 : decode prog_1_method_8_code 105 = .ok (.iload 4, 2) := by decide +kernel
theorem d_S_pair_107 : decode prog_1_method_8_code 107 = .ok (.invokevirtual 169, 3) := by decide +kernel
theorem d_S_pair_110 : decode prog_1_method_8_code 110 = .ok (.iconst (-1), 1) := by decide +kernel
theorem d_S_pair_111 : decode prog_1_method_8_code 111 = .ok (.if_icmp .eq 5, 3) := by decide +kernel
theorem d_S_pair_114 : decode prog_1_method_8_code 114 = .ok (.iconst (-1), 1) := by decide +kernel
theorem d_S_pair_115 : decode prog_1_method_8_code 115 = .ok (.ireturn, 1) := by decide +kernel
theorem d_S_pair_116 : decode prog_1_method_8_code 116 = .ok (.aload_n 0, 1) := by decide +kernel
theorem d_S_pair_117 : decode prog_1_method_8_code 117 = .ok (.getfield 62, 3) := by decide +kernel
theorem d_S_pair_120 : decode prog_1_method_8_code 120 = .ok (.iconst 0, 1) := by decide +kernel
theorem d_S_pair_121 : decode prog_1_method_8_code 121 = .ok (.putfield 103, 3) := by decide +kernel
theorem d_S_pair_124 : decode prog_1_method_8_code 124 = .ok (.aload_n 0, 1) := by decide +kernel
theorem d_S_pair_125 : decode prog_1_method_8_code 125 = .ok (.getfield 26, 3) := by decide +kernel
theorem d_S_pair_128 : decode prog_1_method_8_code 128 = .ok (.iload_n 1, 1) := by decide +kernel
theorem d_S_pair_129 : decode prog_1_method_8_code 129 = .ok (.iload 4, 2) := by decide +kernel
theorem d_S_pair_131 : decode prog_1_method_8_code 131 = .ok (.aload_n 0, 1) := by decide +kernel
theorem d_S_pair_132 : decode prog_1_method_8_code 132 = .ok (.getfield 10, 3) := by decide +kernel
theorem d_S_pair_135 : decode prog_1_method_8_code 135 = .ok (.iload 4, 2) := by decide +kernel
theorem d_S_pair_137 : decode prog_1_method_8_code 137 = .ok (.invokevirtual 172, 3) := by decide +kernel
theorem d_S_pair_140 : decode prog_1_method_8_code 140 = .ok (.invokevirtual 175, 3) := by decide +kernel
theorem d_S_pair_143 : decode prog_1_method_8_code 143 = .ok (.ireturn, 1) := by decide +kernel
theorem d_S_sign_0 : decode prog_1_method_11_code 0 = .ok (.aload_n 0, 1) := by decide +kernel
theorem d_S_sign_1 : decode prog_1_method_11_code 1 = .ok (.getfield 78, 3) := by decide +kernel
theorem d_S_sign_4 : decode prog_1_method_11_code 4 = .ok (.iload_n 1, 1) := by decide +kernel
theorem d_S_sign_5 : decode prog_1_method_11_code 5 = .ok (.invokevirtual 176, 3) := by decide +kernel
theorem d_S_sign_8 : decode prog_1_method_11_code 8 = .ok (.ireturn, 1) := by decide +kernel
theorem d_S_end_0 : decode prog_1_method_12_code 0 = .ok (.iload_n 1, 1) := by decide +kernel
theorem d_S_end_1 : decode prog_1_method_12_code 1 = .ok (.ifCond .lt 14, 3) := by decide +kernel
theorem d_S_end_4 : decode prog_1_method_12_code 4 = .ok (.iload_n 1, 1) := by decide +kernel
theorem d_S_end_5 : decode prog_1_method_12_code 5 = .ok (.aload_n 0, 1) := by decide +kernel
theorem d_S_end_6 : decode prog_1_method_12_code 6 = .ok (.getfield 78, 3) := by decide +kernel
theorem d_S_end_9 : decode prog_1_method_12_code 9 = .ok (.getfield 179, 3) := by decide +kernel
theorem d_S_end_12 : decode prog_1_method_12_code 12 = .ok (.if_icmp .le 5, 3) := by decide +kernel
theorem d_S_end_15 : decode prog_1_method_12_code 15 = .ok (.iconst 0, 1) := by decide +kernel
theorem d_S_end_16 : decode prog_1_method_12_code 16 = .ok (.ireturn, 1) := by decide +kernel
theorem d_S_end_17 : decode prog_1_method_12_code 17 = .ok (.aload_n 0, 1) := by decide +kernel
theorem d_S_end_18 : decode prog_1_method_12_code 18 = .ok (.getfield 78, 3) := by decide +kernel
theorem d_S_end_21 : decode prog_1_method_12_code 21 = .ok (.iload_n 1, 1) := by decide +kernel
theorem d_S_end_22 : decode prog_1_method_12_code 22 = .ok (.putfield 179, 3) := by decide +kernel
theorem d_S_end_25 : decode prog_1_method_12_code 25 = .ok (.iconst 1, 1) := by decide +kernel
theorem d_S_end_26 : decode prog_1_method_12_code 26 = .ok (.ireturn, 1) := by decide +kernel
theorem d_S_choice_0 : decode prog_1_method_13_code 0 = .ok (.aload_n 0, 1) := by decide +kernel
theorem d_S_choice_1 : decode prog_1_method_13_code 1 = .ok (.iload_n 1, 1) := by decide +kernel
theorem d_S_choice_2 : decode prog_1_method_13_code 2 = .ok (.invokevirtual 115, 3) := by decide +kernel
theorem d_S_choice_5 : decode prog_1_method_13_code 5 = .ok (.ifCond .ne 14, 3) := by decide +kernel
theorem d_S_choice_8 : decode prog_1_method_13_code 8 = .ok (.aload_n 0, 1) := by decide +kernel
theorem d_S_choice_9 : decode prog_1_method_13_code 9 = .ok (.getfield 78, 3) := by decide +kernel
theorem d_S_choice_12 : decode prog_1_method_13_code 12 = .ok (.iconst 0, 1) := by decide +kernel
theorem d_S_choice_13 : decode prog_1_method_13_code 13 = .ok (.putfield 179, 3) := by decide +kernel
theorem d_S_choice_16 : decode prog_1_method_13_code 16 = .ok (.bipush (-100), 2) := by decide +kernel
theorem d_S_choice_18 : decode prog_1_method_13_code 18 = .ok (.ireturn, 1) := by decide +kernel
theorem d_S_choice_19 : decode prog_1_method_13_code 19 = .ok (.aload_n 0, 1) := by decide +kernel
theorem d_S_choice_20 : decode prog_1_method_13_code 20 = .ok (.getfield 78, 3) := by decide +kernel
theorem d_S_choice_23 : decode prog_1_method_13_code 23 = .ok (.aload_n 0, 1) := by decide +kernel
theorem d_S_choice_24 : decode prog_1_method_13_code 24 = .ok (.getfield 92, 3) := by decide +kernel
theorem d_S_choice_27 : decode prog_1_method_13_code 27 = .ok (.invokevirtual 180, 3) := by decide +kernel
theorem d_S_choice_30 : decode prog_1_method_13_code 30 = .ok (.istore_n 2, 1) := by decide +kernel
theorem d_S_choice_31 : decode prog_1_method_13_code 31 = .ok (.aload_n 0, 1) := by decide +kernel
theorem d_S_choice_32 : decode prog_1_method_13_code 32 = .ok (.getfield 78, 3) := by decide +kernel
theorem d_S_choice_35 : decode prog_1_method_13_code 35 = .ok (.iconst 0, 1) := by decide +kernel
theorem d_S_choice_36 : decode prog_1_method_13_code 36 = .ok (.putfield 179, 3) := by decide +kernel
theorem d_S_choice_39 : decode prog_1_method_13_code 39 = .ok (.iload_n 2, 1) := by decide +kernel
theorem d_S_choice_40 : decode prog_1_method_13_code 40 = .ok (.ifCond .le 48, 3) := by decide +kernel
theorem d_S_choice_43 : decode prog_1_method_13_code 43 = .ok (.aload_n 0, 1) := by decide +kernel
theorem d_S_choice_44 : decode prog_1_method_13_code 44 = .ok (.getfield 32, 3) := by decide +kernel
theorem d_S_choice_47 : decode prog_1_method_13_code 47 = .ok (.iload_n 1, 1) := by decide +kernel
theorem d_S_choice_48 : decode prog_1_method_13_code 48 = .ok (.aaload, 1) := by decide +kernel
theorem d_S_choice_49 : decode prog_1_method_13_code 49 = .ok (.getfield 184, 3) := by decide +kernel
theorem d_S_choice_52 : decode prog_1_method_13_code 52 = .ok (.astore_n 3, 1) := by decide +kernel
theorem d_S_choice_53 : decode prog_1_method_13_code 53 = .ok (.aload_n 0, 1) := by decide +kernel
theorem d_S_choice_54 : decode prog_1_method_13_code 54 = .ok (.getfield 32, 3) := by decide +kernel
theorem d_S_choice_57 : decode prog_1_method_13_code 57 = .ok (.iload_n 1, 1) := by decide +kernel
theorem d_S_choice_58 : decode prog_1_method_13_code 58 = .ok (.aaload, 1) := by decide +kernel
theorem d_S_choice_59 : decode prog_1_method_13_code 59 = .ok (.aload_n 0, 1) := by decide +kernel
theorem d_S_choice_60 : decode prog_1_method_13_code 60 = .ok (.getfield 92, 3) := by decide +kernel
theorem d_S_choice_63 : decode prog_1_method_13_code 63 = .ok (.putfield 184, 3) := by decide +kernel
theorem d_S_choice_66 : decode prog_1_method_13_code 66 = .ok (.aload_n 0, 1) := by decide +kernel
theorem d_S_choice_67 : decode prog_1_method_13_code 67 = .ok (.getfield 32, 3) := by decide +kernel
theorem d_S_choice_70 : decode prog_1_method_13_code 70 = .ok (.iload_n 1, 1) := by decide +kernel
theorem d_S_choice_71 : decode prog_1_method_13_code 71 = .ok (.aaload, 1) := by decide +kernel
theorem d_S_choice_72 : decode prog_1_method_13_code 72 = .ok (.invokevirtual 122, 3) := by decide +kernel
theorem d_S_choice_75 : decode prog_1_method_13_code 75 = .ok (.aload_n 0, 1) := by decide +kernel
theorem d_S_choice_76 : decode prog_1_method_13_code 76 = .ok (.aload_n 3, 1) := by decide +kernel
theorem d_S_choice_77 : decode prog_1_method_13_code 77 = .ok (.putfield 92, 3) := by decide +kernel
theorem d_S_choice_80 : decode prog_1_method_13_code 80 = .ok (.aload_n 0, 1) := by decide +kernel
theorem d_S_choice_81 : decode prog_1_method_13_code 81 = .ok (.getfield 62, 3) := by decide +kernel
theorem d_S_choice_84 : decode prog_1_method_13_code 84 = .ok (.iconst 0, 1) := by decide +kernel
theorem d_S_choice_85 : decode prog_1_method_13_code 85 = .ok (.putfield 103, 3) := by decide +kernel
theorem d_S_choice_88 : decode prog_1_method_13_code 88 = .ok (.iload_n 2, 1) := by decide +kernel
theorem d_S_choice_89 : decode prog_1_method_13_code 89 = .ok (.ireturn, 1) := by decide +kernel
theorem d_S_partOf_0 : decode prog_1_method_19_code 0 = .ok (.iload_n 1, 1) := by decide +kernel
theorem d_S_partOf_1 : decode prog_1_method_19_code 1 = .ok (.aload_n 0, 1) := by decide +kernel
theorem d_S_partOf_2 : decode prog_1_method_19_code 2 = .ok (.getfield 10, 3) := by decide +kernel
theorem d_S_partOf_5 : decode prog_1_method_19_code 5 = .ok (.iload_n 2, 1) := by decide +kernel
theorem d_S_partOf_6 : decode prog_1_method_19_code 6 = .ok (.invokevirtual 172, 3) := by decide +kernel
theorem d_S_partOf_9 : decode prog_1_method_19_code 9 = .ok (.invokestatic 236, 3) := by decide +kernel
theorem d_S_partOf_12 : decode prog_1_method_19_code 12 = .ok (.ireturn, 1) := by decide +kernel
theorem d_S_take_0 : decode prog_1_method_14_code 0 = .ok (.aload_n 0, 1) := by decide +kernel
theorem d_S_take_1 : decode prog_1_method_14_code 1 = .ok (.iload_n 1, 1) := by decide +kernel
theorem d_S_take_2 : decode prog_1_method_14_code 2 = .ok (.invokevirtual 115, 3) := by decide +kernel
theorem d_S_take_5 : decode prog_1_method_14_code 5 = .ok (.ifCond .eq 14, 3) := by decide +kernel
theorem d_S_take_8 : decode prog_1_method_14_code 8 = .ok (.aload_n 0, 1) := by decide +kernel
theorem d_S_take_9 : decode prog_1_method_14_code 9 = .ok (.getfield 10, 3) := by decide +kernel
theorem d_S_take_12 : decode prog_1_method_14_code 12 = .ok (.iload_n 2, 1) := by decide +kernel
theorem d_S_take_13 : decode prog_1_method_14_code 13 = .ok (.invokevirtual 187, 3) := by decide +kernel
theorem d_S_take_16 : decode prog_1_method_14_code 16 = .ok (.ifCond .ne 5, 3) := by decide +kernel
theorem d_S_take_19 : decode prog_1_method_14_code 19 = .ok (.iconst (-1), 1) := by decide +kernel
theorem d_S_take_20 : decode prog_1_method_14_code 20 = .ok (.ireturn, 1) := by decide +kernel
theorem d_S_take_21 : decode prog_1_method_14_code 21 = .ok (.aload_n 0, 1) := by decide +kernel
theorem d_S_take_22 : decode prog_1_method_14_code 22 = .ok (.getfield 10, 3) := by decide +kernel
theorem d_S_take_25 : decode prog_1_method_14_code 25 = .ok (.iload_n 1, 1) := by decide +kernel
theorem d_S_take_26 : decode prog_1_method_14_code 26 = .ok (.aload_n 0, 1) := by decide +kernel
theorem d_S_take_27 : decode prog_1_method_14_code 27 = .ok (.getfield 32, 3) := by decide +kernel
theorem d_S_take_30 : decode prog_1_method_14_code 30 = .ok (.iload_n 1, 1) := by decide +kernel
theorem d_S_take_31 : decode prog_1_method_14_code 31 = .ok (.aaload, 1) := by decide +kernel
theorem d_S_take_32 : decode prog_1_method_14_code 32 = .ok (.aload_n 0, 1) := by decide +kernel
theorem d_S_take_33 : decode prog_1_method_14_code 33 = .ok (.iload_n 1, 1) := by decide +kernel
theorem d_S_take_34 : decode prog_1_method_14_code 34 = .ok (.iload_n 2, 1) := by decide +kernel
theorem d_S_take_35 : decode prog_1_method_14_code 35 = .ok (.invokevirtual 190, 3) := by decide +kernel
theorem d_S_take_38 : decode prog_1_method_14_code 38 = .ok (.invokevirtual 193, 3) := by decide +kernel
theorem d_S_take_41 : decode prog_1_method_14_code 41 = .ok (.invokevirtual 196, 3) := by decide +kernel
theorem d_S_take_44 : decode prog_1_method_14_code 44 = .ok (.ireturn, 1) := by decide +kernel
theorem d_S_why_0 : decode prog_1_method_15_code 0 = .ok (.aload_n 0, 1) := by decide +kernel
theorem d_S_why_1 : decode prog_1_method_15_code 1 = .ok (.iload_n 1, 1) := by decide +kernel
theorem d_S_why_2 : decode prog_1_method_15_code 2 = .ok (.invokevirtual 115, 3) := by decide +kernel
theorem d_S_why_5 : decode prog_1_method_15_code 5 = .ok (.ifCond .eq 25, 3) := by decide +kernel
theorem d_S_why_8 : decode prog_1_method_15_code 8 = .ok (.aload_n 0, 1) := by decide +kernel
theorem d_S_why_9 : decode prog_1_method_15_code 9 = .ok (.getfield 10, 3) := by decide +kernel
theorem d_S_why_12 : decode prog_1_method_15_code 12 = .ok (.iload_n 2, 1) := by decide +kernel
theorem d_S_why_13 : decode prog_1_method_15_code 13 = .ok (.invokevirtual 187, 3) := by decide +kernel
theorem d_S_why_16 : decode prog_1_method_15_code 16 = .ok (.ifCond .eq 14, 3) := by decide +kernel
theorem d_S_why_19 : decode prog_1_method_15_code 19 = .ok (.aload_n 0, 1) := by decide +kernel
theorem d_S_why_20 : decode prog_1_method_15_code 20 = .ok (.getfield 10, 3) := by decide +kernel
theorem d_S_why_23 : decode prog_1_method_15_code 23 = .ok (.iload_n 3, 1) := by decide +kernel
theorem d_S_why_24 : decode prog_1_method_15_code 24 = .ok (.invokevirtual 128, 3) := by decide +kernel
theorem d_S_why_27 : decode prog_1_method_15_code 27 = .ok (.ifCond .ne 5, 3) := by decide +kernel
theorem d_S_why_30 : decode prog_1_method_15_code 30 = .ok (.iconst (-1), 1) := by decide +kernel
theorem d_S_why_31 : decode prog_1_method_15_code 31 = .ok (.ireturn, 1) := by decide +kernel
theorem d_S_why_32 : decode prog_1_method_15_code 32 = .ok (.aload_n 0, 1) := by decide +kernel
theorem d_S_why_33 : decode prog_1_method_15_code 33 = .ok (.getfield 10, 3) := by decide +kernel
theorem d_S_why_36 : decode prog_1_method_15_code 36 = .ok (.getfield 199, 3) := by decide +kernel
theorem d_S_why_39 : decode prog_1_method_15_code 39 = .ok (.iload_n 3, 1) := by decide +kernel
theorem d_S_why_40 : decode prog_1_method_15_code 40 = .ok (.iaload, 1) := by decide +kernel
theorem d_S_why_41 : decode prog_1_method_15_code 41 = .ok (.iload_n 1, 1) := by decide +kernel
theorem d_S_why_42 : decode prog_1_method_15_code 42 = .ok (.if_icmp .ne 11, 3) := by decide +kernel
theorem d_S_why_45 : decode prog_1_method_15_code 45 = .ok (.iload_n 2, 1) := by decide +kernel
theorem d_S_why_46 : decode prog_1_method_15_code 46 = .ok (.iload_n 3, 1) := by decide +kernel
theorem d_S_why_47 : decode prog_1_method_15_code 47 = .ok (.iushr, 1) := by decide +kernel
theorem d_S_why_48 : decode prog_1_method_15_code 48 = .ok (.iconst 1, 1) := by decide +kernel
theorem d_S_why_49 : decode prog_1_method_15_code 49 = .ok (.iand, 1) := by decide +kernel
theorem d_S_why_50 : decode prog_1_method_15_code 50 = .ok (.ifCond .ne 5, 3) := by decide +kernel
theorem d_S_why_53 : decode prog_1_method_15_code 53 = .ok (.iconst (-1), 1) := by decide +kernel
theorem d_S_why_54 : decode prog_1_method_15_code 54 = .ok (.ireturn, 1) := by decide +kernel
theorem d_S_why_55 : decode prog_1_method_15_code 55 = .ok (.aload_n 0, 1) := by decide +kernel
theorem d_S_why_56 : decode prog_1_method_15_code 56 = .ok (.getfield 32, 3) := by decide +kernel
theorem d_S_why_59 : decode prog_1_method_15_code 59 = .ok (.iload_n 1, 1) := by decide +kernel
theorem d_S_why_60 : decode prog_1_method_15_code 60 = .ok (.aaload, 1) := by decide +kernel
theorem d_S_why_61 : decode prog_1_method_15_code 61 = .ok (.aload_n 0, 1) := by decide +kernel
theorem d_S_why_62 : decode prog_1_method_15_code 62 = .ok (.iload_n 1, 1) := by decide +kernel
theorem d_S_why_63 : decode prog_1_method_15_code 63 = .ok (.iload_n 2, 1) := by decide +kernel
theorem d_S_why_64 : decode prog_1_method_15_code 64 = .ok (.invokevirtual 190, 3) := by decide +kernel
theorem d_S_why_67 : decode prog_1_method_15_code 67 = .ok (.aload_n 0, 1) := by decide +kernel
theorem d_S_why_68 : decode prog_1_method_15_code 68 = .ok (.getfield 10, 3) := by decide +kernel
theorem d_S_why_71 : decode prog_1_method_15_code 71 = .ok (.iload_n 3, 1) := by decide +kernel
theorem d_S_why_72 : decode prog_1_method_15_code 72 = .ok (.invokevirtual 202, 3) := by decide +kernel
theorem d_S_why_75 : decode prog_1_method_15_code 75 = .ok (.invokevirtual 205, 3) := by decide +kernel
theorem d_S_why_78 : decode prog_1_method_15_code 78 = .ok (.ireturn, 1) := by decide +kernel
theorem d_S_order_0 : decode prog_1_method_16_code 0 = .ok (.aload_n 0, 1) := by decide +kernel
theorem d_S_order_1 : decode prog_1_method_16_code 1 = .ok (.getfield 10, 3) := by decide +kernel
theorem d_S_order_4 : decode prog_1_method_16_code 4 = .ok (.iload_n 1, 1) := by decide +kernel
theorem d_S_order_5 : decode prog_1_method_16_code 5 = .ok (.invokevirtual 128, 3) := by decide +kernel
theorem d_S_order_8 : decode prog_1_method_16_code 8 = .ok (.ifCond .ne 5, 3) := by decide +kernel
theorem d_S_order_11 : decode prog_1_method_16_code 11 = .ok (.iconst (-1), 1) := by decide +kernel
theorem d_S_order_12 : decode prog_1_method_16_code 12 = .ok (.ireturn, 1) := by decide +kernel
theorem d_S_order_13 : decode prog_1_method_16_code 13 = .ok (.aload_n 0, 1) := by decide +kernel
theorem d_S_order_14 : decode prog_1_method_16_code 14 = .ok (.getfield 32, 3) := by decide +kernel
theorem d_S_order_17 : decode prog_1_method_16_code 17 = .ok (.aload_n 0, 1) := by decide +kernel
theorem d_S_order_18 : decode prog_1_method_16_code 18 = .ok (.getfield 10, 3) := by decide +kernel
theorem d_S_order_21 : decode prog_1_method_16_code 21 = .ok (.getfield 199, 3) := by decide +kernel
theorem d_S_order_24 : decode prog_1_method_16_code 24 = .ok (.iload_n 1, 1) := by decide +kernel
theorem d_S_order_25 : decode prog_1_method_16_code 25 = .ok (.iaload, 1) := by decide +kernel
theorem d_S_order_26 : decode prog_1_method_16_code 26 = .ok (.aaload, 1) := by decide +kernel
theorem d_S_order_27 : decode prog_1_method_16_code 27 = .ok (.aload_n 0, 1) := by decide +kernel
theorem d_S_order_28 : decode prog_1_method_16_code 28 = .ok (.getfield 10, 3) := by decide +kernel
theorem d_S_order_31 : decode prog_1_method_16_code 31 = .ok (.iload_n 1, 1) := by decide +kernel
theorem d_S_order_32 : decode prog_1_method_16_code 32 = .ok (.invokevirtual 202, 3) := by decide +kernel
theorem d_S_order_35 : decode prog_1_method_16_code 35 = .ok (.invokevirtual 208, 3) := by decide +kernel
theorem d_S_order_38 : decode prog_1_method_16_code 38 = .ok (.ireturn, 1) := by decide +kernel
theorem d_S_isBreach_0 : decode prog_1_method_18_code 0 = .ok (.aload_n 0, 1) := by decide +kernel
theorem d_S_isBreach_1 : decode prog_1_method_18_code 1 = .ok (.getfield 32, 3) := by decide +kernel
theorem d_S_isBreach_4 : decode prog_1_method_18_code 4 = .ok (.iload_n 1, 1) := by decide +kernel
theorem d_S_isBreach_5 : decode prog_1_method_18_code 5 = .ok (.aaload, 1) := by decide +kernel
theorem d_S_isBreach_6 : decode prog_1_method_18_code 6 = .ok (.iload_n 3, 1) := by decide +kernel
theorem d_S_isBreach_7 : decode prog_1_method_18_code 7 = .ok (.invokevirtual 193, 3) := by decide +kernel
theorem d_S_isBreach_10 : decode prog_1_method_18_code 10 = .ok (.istore 5, 2) := by decide +kernel
theorem d_S_isBreach_12 : decode prog_1_method_18_code 12 = .ok (.aload_n 0, 1) := by decide +kernel
theorem d_S_isBreach_13 : decode prog_1_method_18_code 13 = .ok (.getfield 32, 3) := by decide +kernel
theorem d_S_isBreach_16 : decode prog_1_method_18_code 16 = .ok (.iload_n 1, 1) := by decide +kernel
theorem d_S_isBreach_17 : decode prog_1_method_18_code 17 = .ok (.aaload, 1) := by decide +kernel
theorem d_S_isBreach_18 : decode prog_1_method_18_code 18 = .ok (.iload_n 3, 1) := by decide +kernel
theorem d_S_isBreach_19 : decode prog_1_method_18_code 19 = .ok (.iconst 1, 1) := by decide +kernel
theorem d_S_isBreach_20 : decode prog_1_method_18_code 20 = .ok (.iload 4, 2) := by decide +kernel
theorem d_S_isBreach_22 : decode prog_1_method_18_code 22 = .ok (.ishl, 1) := by decide +kernel
theorem d_S_isBreach_23 : decode prog_1_method_18_code 23 = .ok (.ior, 1) := by decide +kernel
theorem d_S_isBreach_24 : decode prog_1_method_18_code 24 = .ok (.invokevirtual 193, 3) := by decide +kernel
theorem d_S_isBreach_27 : decode prog_1_method_18_code 27 = .ok (.istore 6, 2) := by decide +kernel
theorem d_S_isBreach_29 : decode prog_1_method_18_code 29 = .ok (.iload_n 3, 1) := by decide +kernel
theorem d_S_isBreach_30 : decode prog_1_method_18_code 30 = .ok (.iload 5, 2) := by decide +kernel
theorem d_S_isBreach_32 : decode prog_1_method_18_code 32 = .ok (.iconst (-1), 1) := by decide +kernel
theorem d_S_isBreach_33 : decode prog_1_method_18_code 33 = .ok (.ixor, 1) := by decide +kernel
theorem d_S_isBreach_34 : decode prog_1_method_18_code 34 = .ok (.iand, 1) := by decide +kernel
theorem d_S_isBreach_35 : decode prog_1_method_18_code 35 = .ok (.iload 6, 2) := by decide +kernel
theorem d_S_isBreach_37 : decode prog_1_method_18_code 37 = .ok (.iand, 1) := by decide +kernel
theorem d_S_isBreach_38 : decode prog_1_method_18_code 38 = .ok (.istore 7, 2) := by decide +kernel
theorem d_S_isBreach_40 : decode prog_1_method_18_code 40 = .ok (.iload_n 2, 1) := by decide +kernel
theorem d_S_isBreach_41 : decode prog_1_method_18_code 41 = .ok (.ifCond .ne 16, 3) := by decide +kernel
theorem d_S_isBreach_44 : decode prog_1_method_18_code 44 = .ok (.iload 7, 2) := by decide +kernel
theorem d_S_isBreach_46 : decode prog_1_method_18_code 46 = .ok (.ifCond .eq 7, 3) := by decide +kernel
theorem d_S_isBreach_49 : decode prog_1_method_18_code 49 = .ok (.iconst 1, 1) := by decide +kernel
theorem d_S_isBreach_50 : decode prog_1_method_18_code 50 = .ok (.goto 25, 3) := by decide +kernel
theorem d_S_isBreach_53 : decode prog_1_method_18_code 53 = .ok (.iconst 0, 1) := by decide +kernel
theorem d_S_isBreach_54 : decode prog_1_method_18_code 54 = .ok (.goto 21, 3) := by decide +kernel
theorem d_S_isBreach_57 : decode prog_1_method_18_code 57 = .ok (.iload 6, 2) := by decide +kernel
theorem d_S_isBreach_59 : decode prog_1_method_18_code 59 = .ok (.invokestatic 218, 3) := by decide +kernel
theorem d_S_isBreach_62 : decode prog_1_method_18_code 62 = .ok (.iload 5, 2) := by decide +kernel
theorem d_S_isBreach_64 : decode prog_1_method_18_code 64 = .ok (.invokestatic 218, 3) := by decide +kernel
theorem d_S_isBreach_67 : decode prog_1_method_18_code 67 = .ok (.if_icmp .ge 7, 3) := by decide +kernel
theorem d_S_isBreach_70 : decode prog_1_method_18_code 70 = .ok (.iconst 1, 1) := by decide +kernel
theorem d_S_isBreach_71 : decode prog_1_method_18_code 71 = .ok (.goto 4, 3) := by decide +kernel
theorem d_S_isBreach_74 : decode prog_1_method_18_code 74 = .ok (.iconst 0, 1) := by decide +kernel
theorem d_S_isBreach_75 : decode prog_1_method_18_code 75 = .ok (.istore 8, 2) := by decide +kernel
theorem d_S_isBreach_77 : decode prog_1_method_18_code 77 = .ok (.iload 8, 2) := by decide +kernel
theorem d_S_isBreach_79 : decode prog_1_method_18_code 79 = .ok (.ifCond .ne 5, 3) := by decide +kernel
theorem d_S_isBreach_82 : decode prog_1_method_18_code 82 = .ok (.iconst 0, 1) := by decide +kernel
theorem d_S_isBreach_83 : decode prog_1_method_18_code 83 = .ok (.ireturn, 1) := by decide +kernel
theorem d_S_isBreach_84 : decode prog_1_method_18_code 84 = .ok (.aload_n 0, 1) := by decide +kernel
theorem d_S_isBreach_85 : decode prog_1_method_18_code 85 = .ok (.getfield 85, 3) := by decide +kernel
theorem d_S_isBreach_88 : decode prog_1_method_18_code 88 = .ok (.invokevirtual 223, 3) := by decide +kernel
theorem d_S_isBreach_91 : decode prog_1_method_18_code 91 = .ok (.aload_n 0, 1) := by decide +kernel
theorem d_S_isBreach_92 : decode prog_1_method_18_code 92 = .ok (.getfield 85, 3) := by decide +kernel
theorem d_S_isBreach_95 : decode prog_1_method_18_code 95 = .ok (.aload_n 0, 1) := by decide +kernel
theorem d_S_isBreach_96 : decode prog_1_method_18_code 96 = .ok (.getfield 10, 3) := by decide +kernel
theorem d_S_isBreach_99 : decode prog_1_method_18_code 99 = .ok (.iload_n 1, 1) := by decide +kernel
theorem d_S_isBreach_100 : decode prog_1_method_18_code 100 = .ok (.iload_n 3, 1) := by decide +kernel
theorem d_S_isBreach_101 : decode prog_1_method_18_code 101 = .ok (.invokevirtual 196, 3) := by decide +kernel
theorem d_S_isBreach_104 : decode prog_1_method_18_code 104 = .ok (.invokevirtual 226, 3) := by decide +kernel
theorem d_S_isBreach_107 : decode prog_1_method_18_code 107 = .ok (.aload_n 0, 1) := by decide +kernel
theorem d_S_isBreach_108 : decode prog_1_method_18_code 108 = .ok (.getfield 85, 3) := by decide +kernel
theorem d_S_isBreach_111 : decode prog_1_method_18_code 111 = .ok (.aload_n 0, 1) := by decide +kernel
theorem d_S_isBreach_112 : decode prog_1_method_18_code 112 = .ok (.getfield 10, 3) := by decide +kernel
theorem d_S_isBreach_115 : decode prog_1_method_18_code 115 = .ok (.getfield 230, 3) := by decide +kernel
theorem d_S_isBreach_118 : decode prog_1_method_18_code 118 = .ok (.iload_n 1, 1) := by decide +kernel
theorem d_S_isBreach_119 : decode prog_1_method_18_code 119 = .ok (.bipush 8, 2) := by decide +kernel
theorem d_S_isBreach_121 : decode prog_1_method_18_code 121 = .ok (.imul, 1) := by decide +kernel
theorem d_S_isBreach_122 : decode prog_1_method_18_code 122 = .ok (.iload 4, 2) := by decide +kernel
theorem d_S_isBreach_124 : decode prog_1_method_18_code 124 = .ok (.iadd, 1) := by decide +kernel
theorem d_S_isBreach_125 : decode prog_1_method_18_code 125 = .ok (.iaload, 1) := by decide +kernel
theorem d_S_isBreach_126 : decode prog_1_method_18_code 126 = .ok (.invokevirtual 226, 3) := by decide +kernel
theorem d_S_isBreach_129 : decode prog_1_method_18_code 129 = .ok (.iload_n 2, 1) := by decide +kernel
theorem d_S_isBreach_130 : decode prog_1_method_18_code 130 = .ok (.ifCond .ne 28, 3) := by decide +kernel
theorem d_S_isBreach_133 : decode prog_1_method_18_code 133 = .ok (.aload_n 0, 1) := by decide +kernel
theorem d_S_isBreach_134 : decode prog_1_method_18_code 134 = .ok (.getfield 85, 3) := by decide +kernel
theorem d_S_isBreach_137 : decode prog_1_method_18_code 137 = .ok (.aload_n 0, 1) := by decide +kernel
theorem d_S_isBreach_138 : decode prog_1_method_18_code 138 = .ok (.getfield 10, 3) := by decide +kernel
theorem d_S_isBreach_141 : decode prog_1_method_18_code 141 = .ok (.getfield 230, 3) := by decide +kernel
theorem d_S_isBreach_144 : decode prog_1_method_18_code 144 = .ok (.iload_n 1, 1) := by decide +kernel
theorem d_S_isBreach_145 : decode prog_1_method_18_code 145 = .ok (.bipush 8, 2) := by decide +kernel
theorem d_S_isBreach_147 : decode prog_1_method_18_code 147 = .ok (.imul, 1) := by decide +kernel
theorem d_S_isBreach_148 : decode prog_1_method_18_code 148 = .ok (.iload 7, 2) := by decide +kernel
theorem d_S_isBreach_150 : decode prog_1_method_18_code 150 = .ok (.invokestatic 233, 3) := by decide +kernel
theorem d_S_isBreach_153 : decode prog_1_method_18_code 153 = .ok (.iadd, 1) := by decide +kernel
theorem d_S_isBreach_154 : decode prog_1_method_18_code 154 = .ok (.iaload, 1) := by decide +kernel
theorem d_S_isBreach_155 : decode prog_1_method_18_code 155 = .ok (.invokevirtual 226, 3) := by decide +kernel
theorem d_S_isBreach_158 : decode prog_1_method_18_code 158 = .ok (.iconst 1, 1) := by decide +kernel
theorem d_S_isBreach_159 : decode prog_1_method_18_code 159 = .ok (.ireturn, 1) := by decide +kernel
theorem d_S_law_0 : decode prog_1_method_17_code 0 = .ok (.aload_n 0, 1) := by decide +kernel
theorem d_S_law_1 : decode prog_1_method_17_code 1 = .ok (.iload_n 1, 1) := by decide +kernel
theorem d_S_law_2 : decode prog_1_method_17_code 2 = .ok (.invokevirtual 115, 3) := by decide +kernel
theorem d_S_law_5 : decode prog_1_method_17_code 5 = .ok (.ifCond .eq 12, 3) := by decide +kernel
theorem d_S_law_8 : decode prog_1_method_17_code 8 = .ok (.iload_n 2, 1) := by decide +kernel
theorem d_S_law_9 : decode prog_1_method_17_code 9 = .ok (.ifCond .lt 8, 3) := by decide +kernel
theorem d_S_law_12 : decode prog_1_method_17_code 12 = .ok (.iload_n 2, 1) := by decide +kernel
theorem d_S_law_13 : decode prog_1_method_17_code 13 = .ok (.iconst 1, 1) := by decide +kernel
theorem d_S_law_14 : decode prog_1_method_17_code 14 = .ok (.if_icmp .le 5, 3) := by decide +kernel
theorem d_S_law_17 : decode prog_1_method_17_code 17 = .ok (.iconst (-1), 1) := by decide +kernel
theorem d_S_law_18 : decode prog_1_method_17_code 18 = .ok (.ireturn, 1) := by decide +kernel
theorem d_S_law_19 : decode prog_1_method_17_code 19 = .ok (.iconst 1, 1) := by decide +kernel
theorem d_S_law_20 : decode prog_1_method_17_code 20 = .ok (.aload_n 0, 1) := by decide +kernel
theorem d_S_law_21 : decode prog_1_method_17_code 21 = .ok (.getfield 10, 3) := by decide +kernel
theorem d_S_law_24 : decode prog_1_method_17_code 24 = .ok (.getfield 211, 3) := by decide +kernel
theorem d_S_law_27 : decode prog_1_method_17_code 27 = .ok (.iload_n 1, 1) := by decide +kernel
theorem d_S_law_28 : decode prog_1_method_17_code 28 = .ok (.iaload, 1) := by decide +kernel
theorem d_S_law_29 : decode prog_1_method_17_code 29 = .ok (.ishl, 1) := by decide +kernel
theorem d_S_law_30 : decode prog_1_method_17_code 30 = .ok (.istore_n 3, 1) := by decide +kernel
theorem d_S_law_31 : decode prog_1_method_17_code 31 = .ok (.iconst 0, 1) := by decide +kernel
theorem d_S_law_32 : decode prog_1_method_17_code 32 = .ok (.istore 4, 2) := by decide +kernel
theorem d_S_law_34 : decode prog_1_method_17_code 34 = .ok (.iload 4, 2) := by decide +kernel
theorem d_S_law_36 : decode prog_1_method_17_code 36 = .ok (.iload_n 3, 1) := by decide +kernel
theorem d_S_law_37 : decode prog_1_method_17_code 37 = .ok (.if_icmp .ge 57, 3) := by decide +kernel
theorem d_S_law_40 : decode prog_1_method_17_code 40 = .ok (.iconst 0, 1) := by decide +kernel
theorem d_S_law_41 : decode prog_1_method_17_code 41 = .ok (.istore 5, 2) := by decide +kernel
theorem d_S_law_43 : decode prog_1_method_17_code 43 = .ok (.iload 5, 2) := by decide +kernel
theorem d_S_law_45 : decode prog_1_method_17_code 45 = .ok (.aload_n 0, 1) := by decide +kernel
theorem d_S_law_46 : decode prog_1_method_17_code 46 = .ok (.getfield 10, 3) := by decide +kernel
theorem d_S_law_49 : decode prog_1_method_17_code 49 = .ok (.getfield 211, 3) := by decide +kernel
theorem d_S_law_52 : decode prog_1_method_17_code 52 = .ok (.iload_n 1, 1) := by decide +kernel
theorem d_S_law_53 : decode prog_1_method_17_code 53 = .ok (.iaload, 1) := by decide +kernel
theorem d_S_law_54 : decode prog_1_method_17_code 54 = .ok (.if_icmp .ge 34, 3) := by decide +kernel
theorem d_S_law_57 : decode prog_1_method_17_code 57 = .ok (.iload 4, 2) := by decide +kernel
theorem d_S_law_59 : decode prog_1_method_17_code 59 = .ok (.iload 5, 2) := by decide +kernel
theorem d_S_law_61 : decode prog_1_method_17_code 61 = .ok (.iushr, 1) := by decide +kernel
theorem d_S_law_62 : decode prog_1_method_17_code 62 = .ok (.iconst 1, 1) := by decide +kernel
theorem d_S_law_63 : decode prog_1_method_17_code 63 = .ok (.iand, 1) := by decide +kernel
theorem d_S_law_64 : decode prog_1_method_17_code 64 = .ok (.ifCond .ne 18, 3) := by decide +kernel
theorem d_S_law_67 : decode prog_1_method_17_code 67 = .ok (.aload_n 0, 1) := by decide +kernel
theorem d_S_law_68 : decode prog_1_method_17_code 68 = .ok (.iload_n 1, 1) := by decide +kernel
theorem d_S_law_69 : decode prog_1_method_17_code 69 = .ok (.iload_n 2, 1) := by decide +kernel
theorem d_S_law_70 : decode prog_1_method_17_code 70 = .ok (.iload 4, 2) := by decide +kernel
theorem d_S_law_72 : decode prog_1_method_17_code 72 = .ok (.iload 5, 2) := by decide +kernel
theorem d_S_law_74 : decode prog_1_method_17_code 74 = .ok (.invokevirtual 214, 3) := by decide +kernel
theorem d_S_law_77 : decode prog_1_method_17_code 77 = .ok (.ifCond .eq 5, 3) := by decide +kernel
theorem d_S_law_80 : decode prog_1_method_17_code 80 = .ok (.iconst 0, 1) := by decide +kernel
theorem d_S_law_81 : decode prog_1_method_17_code 81 = .ok (.ireturn, 1) := by decide +kernel
theorem d_S_law_82 : decode prog_1_method_17_code 82 = .ok (.iinc 5 1, 3) := by decide +kernel
theorem d_S_law_85 : decode prog_1_method_17_code 85 = .ok (.goto (-42), 3) := by decide +kernel
theorem d_S_law_88 : decode prog_1_method_17_code 88 = .ok (.iinc 4 1, 3) := by decide +kernel
theorem d_S_law_91 : decode prog_1_method_17_code 91 = .ok (.goto (-57), 3) := by decide +kernel
theorem d_S_law_94 : decode prog_1_method_17_code 94 = .ok (.iconst 1, 1) := by decide +kernel
theorem d_S_law_95 : decode prog_1_method_17_code 95 = .ok (.ireturn, 1) := by decide +kernel
theorem d_S_tellTwo_0 : decode prog_1_method_25_code 0 = .ok (.aload_n 0, 1) := by decide +kernel
theorem d_S_tellTwo_1 : decode prog_1_method_25_code 1 = .ok (.getfield 85, 3) := by decide +kernel
theorem d_S_tellTwo_4 : decode prog_1_method_25_code 4 = .ok (.invokevirtual 223, 3) := by decide +kernel
theorem d_S_tellTwo_7 : decode prog_1_method_25_code 7 = .ok (.aload_n 0, 1) := by decide +kernel
theorem d_S_tellTwo_8 : decode prog_1_method_25_code 8 = .ok (.getfield 85, 3) := by decide +kernel
theorem d_S_tellTwo_11 : decode prog_1_method_25_code 11 = .ok (.iload_n 1, 1) := by decide +kernel
theorem d_S_tellTwo_12 : decode prog_1_method_25_code 12 = .ok (.invokevirtual 226, 3) := by decide +kernel
theorem d_S_tellTwo_15 : decode prog_1_method_25_code 15 = .ok (.aload_n 0, 1) := by decide +kernel
theorem d_S_tellTwo_16 : decode prog_1_method_25_code 16 = .ok (.getfield 85, 3) := by decide +kernel
theorem d_S_tellTwo_19 : decode prog_1_method_25_code 19 = .ok (.iload_n 2, 1) := by decide +kernel
theorem d_S_tellTwo_20 : decode prog_1_method_25_code 20 = .ok (.invokevirtual 226, 3) := by decide +kernel
theorem d_S_tellTwo_23 : decode prog_1_method_25_code 23 = .ok (.return_, 1) := by decide +kernel
theorem d_S_judge_0 : decode prog_1_method_20_code 0 = .ok (.aload_n 0, 1) := by decide +kernel
theorem d_S_judge_1 : decode prog_1_method_20_code 1 = .ok (.getfield 10, 3) := by decide +kernel
theorem d_S_judge_4 : decode prog_1_method_20_code 4 = .ok (.iload_n 1, 1) := by decide +kernel
theorem d_S_judge_5 : decode prog_1_method_20_code 5 = .ok (.invokevirtual 187, 3) := by decide +kernel
theorem d_S_judge_8 : decode prog_1_method_20_code 8 = .ok (.ifCond .ne 5, 3) := by decide +kernel
theorem d_S_judge_11 : decode prog_1_method_20_code 11 = .ok (.iconst (-1), 1) := by decide +kernel
theorem d_S_judge_12 : decode prog_1_method_20_code 12 = .ok (.ireturn, 1) := by decide +kernel
theorem d_S_judge_13 : decode prog_1_method_20_code 13 = .ok (.aload_n 0, 1) := by decide +kernel
theorem d_S_judge_14 : decode prog_1_method_20_code 14 = .ok (.getfield 44, 3) := by decide +kernel
theorem d_S_judge_17 : decode prog_1_method_20_code 17 = .ok (.iload_n 1, 1) := by decide +kernel
theorem d_S_judge_18 : decode prog_1_method_20_code 18 = .ok (.invokevirtual 237, 3) := by decide +kernel
theorem d_S_judge_21 : decode prog_1_method_20_code 21 = .ok (.ifCond .ne 5, 3) := by decide +kernel
theorem d_S_judge_24 : decode prog_1_method_20_code 24 = .ok (.iconst 1, 1) := by decide +kernel
theorem d_S_judge_25 : decode prog_1_method_20_code 25 = .ok (.ireturn, 1) := by decide +kernel
theorem d_S_judge_26 : decode prog_1_method_20_code 26 = .ok (.aload_n 0, 1) := by decide +kernel
theorem d_S_judge_27 : decode prog_1_method_20_code 27 = .ok (.getfield 44, 3) := by decide +kernel
theorem d_S_judge_30 : decode prog_1_method_20_code 30 = .ok (.invokevirtual 240, 3) := by decide +kernel
theorem d_S_judge_33 : decode prog_1_method_20_code 33 = .ok (.aload_n 0, 1) := by decide +kernel
theorem d_S_judge_34 : decode prog_1_method_20_code 34 = .ok (.getfield 10, 3) := by decide +kernel
theorem d_S_judge_37 : decode prog_1_method_20_code 37 = .ok (.iload_n 1, 1) := by decide +kernel
theorem d_S_judge_38 : decode prog_1_method_20_code 38 = .ok (.invokevirtual 172, 3) := by decide +kernel
theorem d_S_judge_41 : decode prog_1_method_20_code 41 = .ok (.istore_n 2, 1) := by decide +kernel
theorem d_S_judge_42 : decode prog_1_method_20_code 42 = .ok (.aload_n 0, 1) := by decide +kernel
theorem d_S_judge_43 : decode prog_1_method_20_code 43 = .ok (.getfield 44, 3) := by decide +kernel
theorem d_S_judge_46 : decode prog_1_method_20_code 46 = .ok (.iload_n 1, 1) := by decide +kernel
theorem d_S_judge_47 : decode prog_1_method_20_code 47 = .ok (.iload_n 2, 1) := by decide +kernel
theorem d_S_judge_48 : decode prog_1_method_20_code 48 = .ok (.invokevirtual 243, 3) := by decide +kernel
theorem d_S_judge_51 : decode prog_1_method_20_code 51 = .ok (.ifCond .ne 5, 3) := by decide +kernel
theorem d_S_judge_54 : decode prog_1_method_20_code 54 = .ok (.iconst 2, 1) := by decide +kernel
theorem d_S_judge_55 : decode prog_1_method_20_code 55 = .ok (.ireturn, 1) := by decide +kernel
theorem d_S_judge_56 : decode prog_1_method_20_code 56 = .ok (.aload_n 0, 1) := by decide +kernel
theorem d_S_judge_57 : decode prog_1_method_20_code 57 = .ok (.getfield 44, 3) := by decide +kernel
theorem d_S_judge_60 : decode prog_1_method_20_code 60 = .ok (.iload_n 1, 1) := by decide +kernel
theorem d_S_judge_61 : decode prog_1_method_20_code 61 = .ok (.invokevirtual 246, 3) := by decide +kernel
theorem d_S_judge_64 : decode prog_1_method_20_code 64 = .ok (.istore_n 3, 1) := by decide +kernel
theorem d_S_judge_65 : decode prog_1_method_20_code 65 = .ok (.aload_n 0, 1) := by decide +kernel
theorem d_S_judge_66 : decode prog_1_method_20_code 66 = .ok (.getfield 44, 3) := by decide +kernel
theorem d_S_judge_69 : decode prog_1_method_20_code 69 = .ok (.iload_n 2, 1) := by decide +kernel
theorem d_S_judge_70 : decode prog_1_method_20_code 70 = .ok (.iload_n 3, 1) := by decide +kernel
theorem d_S_judge_71 : decode prog_1_method_20_code 71 = .ok (.invokevirtual 249, 3) := by decide +kernel
theorem d_S_judge_74 : decode prog_1_method_20_code 74 = .ok (.istore 4, 2) := by decide +kernel
theorem d_S_judge_76 : decode prog_1_method_20_code 76 = .ok (.iload 4, 2) := by decide +kernel
theorem d_S_judge_78 : decode prog_1_method_20_code 78 = .ok (.iconst (-1), 1) := by decide +kernel
theorem d_S_judge_79 : decode prog_1_method_20_code 79 = .ok (.if_icmp .eq 31, 3) := by decide +kernel
theorem d_S_judge_82 : decode prog_1_method_20_code 82 = .ok (.aload_n 0, 1) := by decide +kernel
theorem d_S_judge_83 : decode prog_1_method_20_code 83 = .ok (.iload 4, 2) := by decide +kernel
theorem d_S_judge_85 : decode prog_1_method_20_code 85 = .ok (.aload_n 0, 1) := by decide +kernel
theorem d_S_judge_86 : decode prog_1_method_20_code 86 = .ok (.getfield 10, 3) := by decide +kernel
theorem d_S_judge_89 : decode prog_1_method_20_code 89 = .ok (.iload 4, 2) := by decide +kernel
theorem d_S_judge_91 : decode prog_1_method_20_code 91 = .ok (.aload_n 0, 1) := by decide +kernel
theorem d_S_judge_92 : decode prog_1_method_20_code 92 = .ok (.getfield 44, 3) := by decide +kernel
theorem d_S_judge_95 : decode prog_1_method_20_code 95 = .ok (.iload 4, 2) := by decide +kernel
theorem d_S_judge_97 : decode prog_1_method_20_code 97 = .ok (.iload_n 2, 1) := by decide +kernel
theorem d_S_judge_98 : decode prog_1_method_20_code 98 = .ok (.iload_n 3, 1) := by decide +kernel
theorem d_S_judge_99 : decode prog_1_method_20_code 99 = .ok (.invokevirtual 252, 3) := by decide +kernel
theorem d_S_judge_102 : decode prog_1_method_20_code 102 = .ok (.invokevirtual 196, 3) := by decide +kernel
theorem d_S_judge_105 : decode prog_1_method_20_code 105 = .ok (.invokevirtual 255, 3) := by decide +kernel
theorem d_S_judge_108 : decode prog_1_method_20_code 108 = .ok (.iconst 3, 1) := by decide +kernel
theorem d_S_judge_109 : decode prog_1_method_20_code 109 = .ok (.ireturn, 1) := by decide +kernel
theorem d_S_judge_110 : decode prog_1_method_20_code 110 = .ok (.iconst 0, 1) := by decide +kernel
theorem d_S_judge_111 : decode prog_1_method_20_code 111 = .ok (.istore 5, 2) := by decide +kernel
theorem d_S_judge_113 : decode prog_1_method_20_code 113 = .ok (.iload 5, 2) := by decide +kernel
theorem d_S_judge_115 : decode prog_1_method_20_code 115 = .ok (.aload_n 0, 1) := by decide +kernel
theorem d_S_judge_116 : decode prog_1_method_20_code 116 = .ok (.getfield 26, 3) := by decide +kernel
theorem d_S_judge_119 : decode prog_1_method_20_code 119 = .ok (.getfield 149, 3) := by decide +kernel
theorem d_S_judge_122 : decode prog_1_method_20_code 122 = .ok (.if_icmp .ge 38, 3) := by decide +kernel
theorem d_S_judge_125 : decode prog_1_method_20_code 125 = .ok (.aload_n 0, 1) := by decide +kernel
theorem d_S_judge_126 : decode prog_1_method_20_code 126 = .ok (.getfield 44, 3) := by decide +kernel
theorem d_S_judge_129 : decode prog_1_method_20_code 129 = .ok (.iload 5, 2) := by decide +kernel
theorem d_S_judge_131 : decode prog_1_method_20_code 131 = .ok (.iload_n 1, 1) := by decide +kernel
theorem d_S_judge_132 : decode prog_1_method_20_code 132 = .ok (.iload_n 2, 1) := by decide +kernel
theorem d_S_judge_133 : decode prog_1_method_20_code 133 = .ok (.invokevirtual 259, 3) := by decide +kernel
theorem d_S_judge_136 : decode prog_1_method_20_code 136 = .ok (.istore 6, 2) := by decide +kernel
theorem d_S_judge_138 : decode prog_1_method_20_code 138 = .ok (.iload 6, 2) := by decide +kernel
theorem d_S_judge_140 : decode prog_1_method_20_code 140 = .ok (.iconst (-1), 1) := by decide +kernel
theorem d_S_judge_141 : decode prog_1_method_20_code 141 = .ok (.if_icmp .eq 13, 3) := by decide +kernel
theorem d_S_judge_144 : decode prog_1_method_20_code 144 = .ok (.aload_n 0, 1) := by decide +kernel
theorem d_S_judge_145 : decode prog_1_method_20_code 145 = .ok (.iload 5, 2) := by decide +kernel
theorem d_S_judge_147 : decode prog_1_method_20_code 147 = .ok (.iload 6, 2) := by decide +kernel
theorem d_S_judge_149 : decode prog_1_method_20_code 149 = .ok (.invokevirtual 255, 3) := by decide +kernel
theorem d_S_judge_152 : decode prog_1_method_20_code 152 = .ok (.iconst 4, 1) := by decide +kernel
theorem d_S_judge_153 : decode prog_1_method_20_code 153 = .ok (.ireturn, 1) := by decide +kernel
theorem d_S_judge_154 : decode prog_1_method_20_code 154 = .ok (.iinc 5 1, 3) := by decide +kernel
theorem d_S_judge_157 : decode prog_1_method_20_code 157 = .ok (.goto (-44), 3) := by decide +kernel
theorem d_S_judge_160 : decode prog_1_method_20_code 160 = .ok (.iconst 0, 1) := by decide +kernel
theorem d_S_judge_161 : decode prog_1_method_20_code 161 = .ok (.ireturn, 1) := by decide +kernel
theorem d_S_offer_0 : decode prog_1_method_21_code 0 = .ok (.aload_n 0, 1) := by decide +kernel
theorem d_S_offer_1 : decode prog_1_method_21_code 1 = .ok (.getfield 71, 3) := by decide +kernel
theorem d_S_offer_4 : decode prog_1_method_21_code 4 = .ok (.invokevirtual 262, 3) := by decide +kernel
theorem d_S_offer_7 : decode prog_1_method_21_code 7 = .ok (.aload_n 0, 1) := by decide +kernel
theorem d_S_offer_8 : decode prog_1_method_21_code 8 = .ok (.getfield 71, 3) := by decide +kernel
theorem d_S_offer_11 : decode prog_1_method_21_code 11 = .ok (.invokevirtual 265, 3) := by decide +kernel
theorem d_S_offer_14 : decode prog_1_method_21_code 14 = .ok (.ifCond .ne 6, 3) := by decide +kernel
theorem d_S_offer_17 : decode prog_1_method_21_code 17 = .ok (.bipush (-3), 2) := by decide +kernel
theorem d_S_offer_19 : decode prog_1_method_21_code 19 = .ok (.ireturn, 1) := by decide +kernel
theorem d_S_offer_20 : decode prog_1_method_21_code 20 = .ok (.aload_n 0, 1) := by decide +kernel
theorem d_S_offer_21 : decode prog_1_method_21_code 21 = .ok (.aload_n 0, 1) := by decide +kernel
theorem d_S_offer_22 : decode prog_1_method_21_code 22 = .ok (.getfield 71, 3) := by decide +kernel
theorem d_S_offer_25 : decode prog_1_method_21_code 25 = .ok (.getfield 269, 3) := by decide +kernel
theorem d_S_offer_28 : decode prog_1_method_21_code 28 = .ok (.aload_n 0, 1) := by decide +kernel
theorem d_S_offer_29 : decode prog_1_method_21_code 29 = .ok (.getfield 71, 3) := by decide +kernel
theorem d_S_offer_32 : decode prog_1_method_21_code 32 = .ok (.getfield 272, 3) := by decide +kernel
theorem d_S_offer_35 : decode prog_1_method_21_code 35 = .ok (.invokevirtual 255, 3) := by decide +kernel
theorem d_S_offer_38 : decode prog_1_method_21_code 38 = .ok (.aload_n 0, 1) := by decide +kernel
theorem d_S_offer_39 : decode prog_1_method_21_code 39 = .ok (.getfield 10, 3) := by decide +kernel
theorem d_S_offer_42 : decode prog_1_method_21_code 42 = .ok (.aload_n 0, 1) := by decide +kernel
theorem d_S_offer_43 : decode prog_1_method_21_code 43 = .ok (.getfield 71, 3) := by decide +kernel
theorem d_S_offer_46 : decode prog_1_method_21_code 46 = .ok (.getfield 275, 3) := by decide +kernel
theorem d_S_offer_49 : decode prog_1_method_21_code 49 = .ok (.invokevirtual 278, 3) := by decide +kernel
theorem d_S_offer_52 : decode prog_1_method_21_code 52 = .ok (.ireturn, 1) := by decide +kernel
theorem d_S_all_0 : decode prog_1_method_22_code 0 = .ok (.aload_n 0, 1) := by decide +kernel
theorem d_S_all_1 : decode prog_1_method_22_code 1 = .ok (.getfield 62, 3) := by decide +kernel
theorem d_S_all_4 : decode prog_1_method_22_code 4 = .ok (.invokevirtual 281, 3) := by decide +kernel
theorem d_S_all_7 : decode prog_1_method_22_code 7 = .ok (.aload_n 0, 1) := by decide +kernel
theorem d_S_all_8 : decode prog_1_method_22_code 8 = .ok (.getfield 85, 3) := by decide +kernel
theorem d_S_all_11 : decode prog_1_method_22_code 11 = .ok (.invokevirtual 223, 3) := by decide +kernel
theorem d_S_all_14 : decode prog_1_method_22_code 14 = .ok (.iconst 0, 1) := by decide +kernel
theorem d_S_all_15 : decode prog_1_method_22_code 15 = .ok (.istore_n 1, 1) := by decide +kernel
theorem d_S_all_16 : decode prog_1_method_22_code 16 = .ok (.iload_n 1, 1) := by decide +kernel
theorem d_S_all_17 : decode prog_1_method_22_code 17 = .ok (.aload_n 0, 1) := by decide +kernel
theorem d_S_all_18 : decode prog_1_method_22_code 18 = .ok (.getfield 62, 3) := by decide +kernel
theorem d_S_all_21 : decode prog_1_method_22_code 21 = .ok (.getfield 284, 3) := by decide +kernel
theorem d_S_all_24 : decode prog_1_method_22_code 24 = .ok (.if_icmp .ge 31, 3) := by decide +kernel
theorem d_S_all_27 : decode prog_1_method_22_code 27 = .ok (.iload_n 1, 1) := by decide +kernel
theorem d_S_all_28 : decode prog_1_method_22_code 28 = .ok (.bipush 40, 2) := by decide +kernel
theorem d_S_all_30 : decode prog_1_method_22_code 30 = .ok (.if_icmp .ge 25, 3) := by decide +kernel
theorem d_S_all_33 : decode prog_1_method_22_code 33 = .ok (.aload_n 0, 1) := by decide +kernel
theorem d_S_all_34 : decode prog_1_method_22_code 34 = .ok (.getfield 85, 3) := by decide +kernel
theorem d_S_all_37 : decode prog_1_method_22_code 37 = .ok (.aload_n 0, 1) := by decide +kernel
theorem d_S_all_38 : decode prog_1_method_22_code 38 = .ok (.getfield 62, 3) := by decide +kernel
theorem d_S_all_41 : decode prog_1_method_22_code 41 = .ok (.getfield 285, 3) := by decide +kernel
theorem d_S_all_44 : decode prog_1_method_22_code 44 = .ok (.iload_n 1, 1) := by decide +kernel
theorem d_S_all_45 : decode prog_1_method_22_code 45 = .ok (.iaload, 1) := by decide +kernel
theorem d_S_all_46 : decode prog_1_method_22_code 46 = .ok (.invokevirtual 226, 3) := by decide +kernel
theorem d_S_all_49 : decode prog_1_method_22_code 49 = .ok (.iinc 1 1, 3) := by decide +kernel
theorem d_S_all_52 : decode prog_1_method_22_code 52 = .ok (.goto (-36), 3) := by decide +kernel
theorem d_S_all_55 : decode prog_1_method_22_code 55 = .ok (.aload_n 0, 1) := by decide +kernel
theorem d_S_all_56 : decode prog_1_method_22_code 56 = .ok (.getfield 62, 3) := by decide +kernel
theorem d_S_all_59 : decode prog_1_method_22_code 59 = .ok (.getfield 284, 3) := by decide +kernel
theorem d_S_all_62 : decode prog_1_method_22_code 62 = .ok (.ireturn, 1) := by decide +kernel
theorem d_S_best_0 : decode prog_1_method_23_code 0 = .ok (.iload_n 1, 1) := by decide +kernel
theorem d_S_best_1 : decode prog_1_method_23_code 1 = .ok (.ifCond .lt 8, 3) := by decide +kernel
theorem d_S_best_4 : decode prog_1_method_23_code 4 = .ok (.iload_n 1, 1) := by decide +kernel
theorem d_S_best_5 : decode prog_1_method_23_code 5 = .ok (.iconst 1, 1) := by decide +kernel
theorem d_S_best_6 : decode prog_1_method_23_code 6 = .ok (.if_icmp .le 5, 3) := by decide +kernel
theorem d_S_best_9 : decode prog_1_method_23_code 9 = .ok (.iconst (-1), 1) := by decide +kernel
theorem d_S_best_10 : decode prog_1_method_23_code 10 = .ok (.ireturn, 1) := by decide +kernel
theorem d_S_best_11 : decode prog_1_method_23_code 11 = .ok (.aload_n 0, 1) := by decide +kernel
theorem d_S_best_12 : decode prog_1_method_23_code 12 = .ok (.getfield 62, 3) := by decide +kernel
theorem d_S_best_15 : decode prog_1_method_23_code 15 = .ok (.invokevirtual 281, 3) := by decide +kernel
theorem d_S_best_18 : decode prog_1_method_23_code 18 = .ok (.aload_n 0, 1) := by decide +kernel
theorem d_S_best_19 : decode prog_1_method_23_code 19 = .ok (.getfield 62, 3) := by decide +kernel
theorem d_S_best_22 : decode prog_1_method_23_code 22 = .ok (.iload_n 1, 1) := by decide +kernel
theorem d_S_best_23 : decode prog_1_method_23_code 23 = .ok (.ifCond .ne 7, 3) := by decide +kernel
theorem d_S_best_26 : decode prog_1_method_23_code 26 = .ok (.iconst 1, 1) := by decide +kernel
theorem d_S_best_27 : decode prog_1_method_23_code 27 = .ok (.goto 4, 3) := by decide +kernel
theorem d_S_best_30 : decode prog_1_method_23_code 30 = .ok (.iconst 0, 1) := by decide +kernel
theorem d_S_best_31 : decode prog_1_method_23_code 31 = .ok (.invokevirtual 288, 3) := by decide +kernel
theorem d_S_best_34 : decode prog_1_method_23_code 34 = .ok (.istore_n 2, 1) := by decide +kernel
theorem d_S_best_35 : decode prog_1_method_23_code 35 = .ok (.iload_n 2, 1) := by decide +kernel
theorem d_S_best_36 : decode prog_1_method_23_code 36 = .ok (.iconst (-1), 1) := by decide +kernel
theorem d_S_best_37 : decode prog_1_method_23_code 37 = .ok (.if_icmp .ne 8, 3) := by decide +kernel
theorem d_S_best_40 : decode prog_1_method_23_code 40 = .ok (.bipush (-2), 2) := by decide +kernel
theorem d_S_best_42 : decode prog_1_method_23_code 42 = .ok (.goto 12, 3) := by decide +kernel
theorem d_S_best_45 : decode prog_1_method_23_code 45 = .ok (.aload_n 0, 1) := by decide +kernel
theorem d_S_best_46 : decode prog_1_method_23_code 46 = .ok (.getfield 62, 3) := by decide +kernel
theorem d_S_best_49 : decode prog_1_method_23_code 49 = .ok (.getfield 285, 3) := by decide +kernel
theorem d_S_best_52 : decode prog_1_method_23_code 52 = .ok (.iload_n 2, 1) := by decide +kernel
theorem d_S_best_53 : decode prog_1_method_23_code 53 = .ok (.iaload, 1) := by decide +kernel
theorem d_S_best_54 : decode prog_1_method_23_code 54 = .ok (.ireturn, 1) := by decide +kernel
theorem d_S_steps_0 : decode prog_1_method_24_code 0 = .ok (.aload_n 0, 1) := by decide +kernel
theorem d_S_steps_1 : decode prog_1_method_24_code 1 = .ok (.getfield 62, 3) := by decide +kernel
theorem d_S_steps_4 : decode prog_1_method_24_code 4 = .ok (.invokevirtual 281, 3) := by decide +kernel
theorem d_S_steps_7 : decode prog_1_method_24_code 7 = .ok (.aload_n 0, 1) := by decide +kernel
theorem d_S_steps_8 : decode prog_1_method_24_code 8 = .ok (.getfield 62, 3) := by decide +kernel
theorem d_S_steps_11 : decode prog_1_method_24_code 11 = .ok (.iload_n 1, 1) := by decide +kernel
theorem d_S_steps_12 : decode prog_1_method_24_code 12 = .ok (.invokevirtual 292, 3) := by decide +kernel
theorem d_S_steps_15 : decode prog_1_method_24_code 15 = .ok (.istore_n 3, 1) := by decide +kernel
theorem d_S_steps_16 : decode prog_1_method_24_code 16 = .ok (.aload_n 0, 1) := by decide +kernel
theorem d_S_steps_17 : decode prog_1_method_24_code 17 = .ok (.getfield 62, 3) := by decide +kernel
theorem d_S_steps_20 : decode prog_1_method_24_code 20 = .ok (.iload_n 2, 1) := by decide +kernel
theorem d_S_steps_21 : decode prog_1_method_24_code 21 = .ok (.invokevirtual 292, 3) := by decide +kernel
theorem d_S_steps_24 : decode prog_1_method_24_code 24 = .ok (.istore 4, 2) := by decide +kernel
theorem d_S_steps_26 : decode prog_1_method_24_code 26 = .ok (.iload_n 3, 1) := by decide +kernel
theorem d_S_steps_27 : decode prog_1_method_24_code 27 = .ok (.iconst (-1), 1) := by decide +kernel
theorem d_S_steps_28 : decode prog_1_method_24_code 28 = .ok (.if_icmp .eq 9, 3) := by decide +kernel
theorem d_S_steps_31 : decode prog_1_method_24_code 31 = .ok (.iload 4, 2) := by decide +kernel
theorem d_S_steps_33 : decode prog_1_method_24_code 33 = .ok (.iconst (-1), 1) := by decide +kernel
theorem d_S_steps_34 : decode prog_1_method_24_code 34 = .ok (.if_icmp .ne 5, 3) := by decide +kernel
theorem d_S_steps_37 : decode prog_1_method_24_code 37 = .ok (.iconst (-1), 1) := by decide +kernel
theorem d_S_steps_38 : decode prog_1_method_24_code 38 = .ok (.ireturn, 1) := by decide +kernel
theorem d_S_steps_39 : decode prog_1_method_24_code 39 = .ok (.aload_n 0, 1) := by decide +kernel
theorem d_S_steps_40 : decode prog_1_method_24_code 40 = .ok (.getfield 62, 3) := by decide +kernel
theorem d_S_steps_43 : decode prog_1_method_24_code 43 = .ok (.iload_n 3, 1) := by decide +kernel
theorem d_S_steps_44 : decode prog_1_method_24_code 44 = .ok (.iload 4, 2) := by decide +kernel
theorem d_S_steps_46 : decode prog_1_method_24_code 46 = .ok (.invokevirtual 293, 3) := by decide +kernel
theorem d_S_steps_49 : decode prog_1_method_24_code 49 = .ok (.istore 5, 2) := by decide +kernel
theorem d_S_steps_51 : decode prog_1_method_24_code 51 = .ok (.iload 5, 2) := by decide +kernel
theorem d_S_steps_53 : decode prog_1_method_24_code 53 = .ok (.iconst (-1), 1) := by decide +kernel
theorem d_S_steps_54 : decode prog_1_method_24_code 54 = .ok (.if_icmp .ne 8, 3) := by decide +kernel
theorem d_S_steps_57 : decode prog_1_method_24_code 57 = .ok (.bipush (-2), 2) := by decide +kernel
theorem d_S_steps_59 : decode prog_1_method_24_code 59 = .ok (.goto 5, 3) := by decide +kernel
theorem d_S_steps_62 : decode prog_1_method_24_code 62 = .ok (.iload 5, 2) := by decide +kernel
theorem d_S_steps_64 : decode prog_1_method_24_code 64 = .ok (.ireturn, 1) := by decide +kernel
theorem d_S_near_0 : decode prog_1_method_26_code 0 = .ok (.aload_n 0, 1) := by decide +kernel
theorem d_S_near_1 : decode prog_1_method_26_code 1 = .ok (.getfield 44, 3) := by decide +kernel
theorem d_S_near_4 : decode prog_1_method_26_code 4 = .ok (.invokevirtual 240, 3) := by decide +kernel
theorem d_S_near_7 : decode prog_1_method_26_code 7 = .ok (.aload_n 0, 1) := by decide +kernel
theorem d_S_near_8 : decode prog_1_method_26_code 8 = .ok (.getfield 53, 3) := by decide +kernel
theorem d_S_near_11 : decode prog_1_method_26_code 11 = .ok (.iconst 1, 1) := by decide +kernel
theorem d_S_near_12 : decode prog_1_method_26_code 12 = .ok (.invokevirtual 296, 3) := by decide +kernel
theorem d_S_near_15 : decode prog_1_method_26_code 15 = .ok (.aload_n 0, 1) := by decide +kernel
theorem d_S_near_16 : decode prog_1_method_26_code 16 = .ok (.getfield 53, 3) := by decide +kernel
theorem d_S_near_19 : decode prog_1_method_26_code 19 = .ok (.iconst 0, 1) := by decide +kernel
theorem d_S_near_20 : decode prog_1_method_26_code 20 = .ok (.iconst 0, 1) := by decide +kernel
theorem d_S_near_21 : decode prog_1_method_26_code 21 = .ok (.iconst 0, 1) := by decide +kernel
theorem d_S_near_22 : decode prog_1_method_26_code 22 = .ok (.aload_n 0, 1) := by decide +kernel
theorem d_S_near_23 : decode prog_1_method_26_code 23 = .ok (.getfield 53, 3) := by decide +kernel
theorem d_S_near_26 : decode prog_1_method_26_code 26 = .ok (.getfield 299, 3) := by decide +kernel
theorem d_S_near_29 : decode prog_1_method_26_code 29 = .ok (.iconst 0, 1) := by decide +kernel
theorem d_S_near_30 : decode prog_1_method_26_code 30 = .ok (.invokevirtual 302, 3) := by decide +kernel
theorem d_S_near_33 : decode prog_1_method_26_code 33 = .ok (.pop, 1) := by decide +kernel
theorem d_S_near_34 : decode prog_1_method_26_code 34 = .ok (.aload_n 0, 1) := by decide +kernel
theorem d_S_near_35 : decode prog_1_method_26_code 35 = .ok (.getfield 85, 3) := by decide +kernel
theorem d_S_near_38 : decode prog_1_method_26_code 38 = .ok (.invokevirtual 223, 3) := by decide +kernel
theorem d_S_near_41 : decode prog_1_method_26_code 41 = .ok (.aload_n 0, 1) := by decide +kernel
theorem d_S_near_42 : decode prog_1_method_26_code 42 = .ok (.getfield 85, 3) := by decide +kernel
theorem d_S_near_45 : decode prog_1_method_26_code 45 = .ok (.aload_n 0, 1) := by decide +kernel
theorem d_S_near_46 : decode prog_1_method_26_code 46 = .ok (.getfield 53, 3) := by decide +kernel
theorem d_S_near_49 : decode prog_1_method_26_code 49 = .ok (.getfield 306, 3) := by decide +kernel
theorem d_S_near_52 : decode prog_1_method_26_code 52 = .ok (.invokevirtual 226, 3) := by decide +kernel
theorem d_S_near_55 : decode prog_1_method_26_code 55 = .ok (.aload_n 0, 1) := by decide +kernel
theorem d_S_near_56 : decode prog_1_method_26_code 56 = .ok (.getfield 53, 3) := by decide +kernel
theorem d_S_near_59 : decode prog_1_method_26_code 59 = .ok (.getfield 309, 3) := by decide +kernel
theorem d_S_near_62 : decode prog_1_method_26_code 62 = .ok (.ireturn, 1) := by decide +kernel
theorem d_S_places_0 : decode prog_1_method_27_code 0 = .ok (.aload_n 0, 1) := by decide +kernel
theorem d_S_places_1 : decode prog_1_method_27_code 1 = .ok (.getfield 53, 3) := by decide +kernel
theorem d_S_places_4 : decode prog_1_method_27_code 4 = .ok (.iconst 2, 1) := by decide +kernel
theorem d_S_places_5 : decode prog_1_method_27_code 5 = .ok (.invokevirtual 296, 3) := by decide +kernel
theorem d_S_places_8 : decode prog_1_method_27_code 8 = .ok (.iconst 0, 1) := by decide +kernel
theorem d_S_places_9 : decode prog_1_method_27_code 9 = .ok (.istore_n 1, 1) := by decide +kernel
theorem d_S_places_10 : decode prog_1_method_27_code 10 = .ok (.iload_n 1, 1) := by decide +kernel
theorem d_S_places_11 : decode prog_1_method_27_code 11 = .ok (.iconst 4, 1) := by decide +kernel
theorem d_S_places_12 : decode prog_1_method_27_code 12 = .ok (.if_icmp .ge 98, 3) := by decide +kernel
theorem d_S_places_15 : decode prog_1_method_27_code 15 = .ok (.iconst 0, 1) := by decide +kernel
theorem d_S_places_16 : decode prog_1_method_27_code 16 = .ok (.istore_n 2, 1) := by decide +kernel
theorem d_S_places_17 : decode prog_1_method_27_code 17 = .ok (.iload_n 2, 1) := by decide +kernel
theorem d_S_places_18 : decode prog_1_method_27_code 18 = .ok (.sipush 256, 3) := by decide +kernel
theorem d_S_places_21 : decode prog_1_method_27_code 21 = .ok (.if_icmp .ge 83, 3) := by decide +kernel
theorem d_S_places_24 : decode prog_1_method_27_code 24 = .ok (.aload_n 0, 1) := by decide +kernel
theorem d_S_places_25 : decode prog_1_method_27_code 25 = .ok (.getfield 44, 3) := by decide +kernel
theorem d_S_places_28 : decode prog_1_method_27_code 28 = .ok (.iload_n 2, 1) := by decide +kernel
theorem d_S_places_29 : decode prog_1_method_27_code 29 = .ok (.iload_n 1, 1) := by decide +kernel
theorem d_S_places_30 : decode prog_1_method_27_code 30 = .ok (.invokevirtual 312, 3) := by decide +kernel
theorem d_S_places_33 : decode prog_1_method_27_code 33 = .ok (.ifCond .eq 65, 3) := by decide +kernel
theorem d_S_places_36 : decode prog_1_method_27_code 36 = .ok (.aload_n 0, 1) := by decide +kernel
theorem d_S_places_37 : decode prog_1_method_27_code 37 = .ok (.getfield 53, 3) := by decide +kernel
theorem d_S_places_40 : decode prog_1_method_27_code 40 = .ok (.iconst 0, 1) := by decide +kernel
theorem d_S_places_41 : decode prog_1_method_27_code 41 = .ok (.iconst 0, 1) := by decide +kernel
theorem d_S_places_42 : decode prog_1_method_27_code 42 = .ok (.iconst 0, 1) := by decide +kernel
theorem d_S_places_43 : decode prog_1_method_27_code 43 = .ok (.aload_n 0, 1) := by decide +kernel
theorem d_S_places_44 : decode prog_1_method_27_code 44 = .ok (.getfield 53, 3) := by decide +kernel
theorem d_S_places_47 : decode prog_1_method_27_code 47 = .ok (.getfield 299, 3) := by decide +kernel
theorem d_S_places_50 : decode prog_1_method_27_code 50 = .ok (.iconst 0, 1) := by decide +kernel
theorem d_S_places_51 : decode prog_1_method_27_code 51 = .ok (.invokevirtual 302, 3) := by decide +kernel
theorem d_S_places_54 : decode prog_1_method_27_code 54 = .ok (.ifCond .eq 44, 3) := by decide +kernel
theorem d_S_places_57 : decode prog_1_method_27_code 57 = .ok (.aload_n 0, 1) := by decide +kernel
theorem d_S_places_58 : decode prog_1_method_27_code 58 = .ok (.getfield 85, 3) := by decide +kernel
theorem d_S_places_61 : decode prog_1_method_27_code 61 = .ok (.invokevirtual 223, 3) := by decide +kernel
theorem d_S_places_64 : decode prog_1_method_27_code 64 = .ok (.iconst 0, 1) := by decide +kernel
theorem d_S_places_65 : decode prog_1_method_27_code 65 = .ok (.istore_n 3, 1) := by decide +kernel
theorem d_S_places_66 : decode prog_1_method_27_code 66 = .ok (.iload_n 3, 1) := by decide +kernel
theorem d_S_places_67 : decode prog_1_method_27_code 67 = .ok (.aload_n 0, 1) := by decide +kernel
theorem d_S_places_68 : decode prog_1_method_27_code 68 = .ok (.getfield 96, 3) := by decide +kernel
theorem d_S_places_71 : decode prog_1_method_27_code 71 = .ok (.if_icmp .ge 25, 3) := by decide +kernel
theorem d_S_places_74 : decode prog_1_method_27_code 74 = .ok (.aload_n 0, 1) := by decide +kernel
theorem d_S_places_75 : decode prog_1_method_27_code 75 = .ok (.getfield 85, 3) := by decide +kernel
theorem d_S_places_78 : decode prog_1_method_27_code 78 = .ok (.aload_n 0, 1) := by decide +kernel
theorem d_S_places_79 : decode prog_1_method_27_code 79 = .ok (.getfield 44, 3) := by decide +kernel
theorem d_S_places_82 : decode prog_1_method_27_code 82 = .ok (.getfield 315, 3) := by decide +kernel
theorem d_S_places_85 : decode prog_1_method_27_code 85 = .ok (.iload_n 3, 1) := by decide +kernel
theorem d_S_places_86 : decode prog_1_method_27_code 86 = .ok (.iaload, 1) := by decide +kernel
theorem d_S_places_87 : decode prog_1_method_27_code 87 = .ok (.invokevirtual 226, 3) := by decide +kernel
theorem d_S_places_90 : decode prog_1_method_27_code 90 = .ok (.iinc 3 1, 3) := by decide +kernel
theorem d_S_places_93 : decode prog_1_method_27_code 93 = .ok (.goto (-27), 3) := by decide +kernel
theorem d_S_places_96 : decode prog_1_method_27_code 96 = .ok (.iload_n 1, 1) := by decide +kernel
theorem d_S_places_97 : decode prog_1_method_27_code 97 = .ok (.ireturn, 1) := by decide +kernel
theorem d_S_places_98 : decode prog_1_method_27_code 98 = .ok (.iinc 2 1, 3) := by decide +kernel
theorem d_S_places_101 : decode prog_1_method_27_code 101 = .ok (.goto (-84), 3) := by decide +kernel
theorem d_S_places_104 : decode prog_1_method_27_code 104 = .ok (.iinc 1 1, 3) := by decide +kernel
theorem d_S_places_107 : decode prog_1_method_27_code 107 = .ok (.goto (-97), 3) := by decide +kernel
theorem d_S_places_110 : decode prog_1_method_27_code 110 = .ok (.bipush (-2), 2) := by decide +kernel
theorem d_S_places_112 : decode prog_1_method_27_code 112 = .ok (.ireturn, 1) := by decide +kernel
theorem d_S_gain_0 : decode prog_1_method_28_code 0 = .ok (.aload_n 0, 1) := by decide +kernel
theorem d_S_gain_1 : decode prog_1_method_28_code 1 = .ok (.getfield 19, 3) := by decide +kernel
theorem d_S_gain_4 : decode prog_1_method_28_code 4 = .ok (.iload_n 1, 1) := by decide +kernel
theorem d_S_gain_5 : decode prog_1_method_28_code 5 = .ok (.invokevirtual 146, 3) := by decide +kernel
theorem d_S_gain_8 : decode prog_1_method_28_code 8 = .ok (.ifCond .ne 5, 3) := by decide +kernel
theorem d_S_gain_11 : decode prog_1_method_28_code 11 = .ok (.iconst (-1), 1) := by decide +kernel
theorem d_S_gain_12 : decode prog_1_method_28_code 12 = .ok (.ireturn, 1) := by decide +kernel
theorem d_S_gain_13 : decode prog_1_method_28_code 13 = .ok (.aload_n 0, 1) := by decide +kernel
theorem d_S_gain_14 : decode prog_1_method_28_code 14 = .ok (.getfield 71, 3) := by decide +kernel
theorem d_S_gain_17 : decode prog_1_method_28_code 17 = .ok (.invokevirtual 262, 3) := by decide +kernel
theorem d_S_gain_20 : decode prog_1_method_28_code 20 = .ok (.aload_n 0, 1) := by decide +kernel
theorem d_S_gain_21 : decode prog_1_method_28_code 21 = .ok (.getfield 71, 3) := by decide +kernel
theorem d_S_gain_24 : decode prog_1_method_28_code 24 = .ok (.invokevirtual 265, 3) := by decide +kernel
theorem d_S_gain_27 : decode prog_1_method_28_code 27 = .ok (.ifCond .ne 5, 3) := by decide +kernel
theorem d_S_gain_30 : decode prog_1_method_28_code 30 = .ok (.iconst 0, 1) := by decide +kernel
theorem d_S_gain_31 : decode prog_1_method_28_code 31 = .ok (.ireturn, 1) := by decide +kernel
theorem d_S_gain_32 : decode prog_1_method_28_code 32 = .ok (.aload_n 0, 1) := by decide +kernel
theorem d_S_gain_33 : decode prog_1_method_28_code 33 = .ok (.getfield 71, 3) := by decide +kernel
theorem d_S_gain_36 : decode prog_1_method_28_code 36 = .ok (.iload_n 1, 1) := by decide +kernel
theorem d_S_gain_37 : decode prog_1_method_28_code 37 = .ok (.invokevirtual 318, 3) := by decide +kernel
theorem d_S_gain_40 : decode prog_1_method_28_code 40 = .ok (.istore_n 2, 1) := by decide +kernel
theorem d_S_gain_41 : decode prog_1_method_28_code 41 = .ok (.iconst 1, 1) := by decide +kernel
theorem d_S_gain_42 : decode prog_1_method_28_code 42 = .ok (.istore_n 3, 1) := by decide +kernel
theorem d_S_gain_43 : decode prog_1_method_28_code 43 = .ok (.iload_n 3, 1) := by decide +kernel
theorem d_S_gain_44 : decode prog_1_method_28_code 44 = .ok (.aload_n 0, 1) := by decide +kernel
theorem d_S_gain_45 : decode prog_1_method_28_code 45 = .ok (.getfield 10, 3) := by decide +kernel
theorem d_S_gain_48 : decode prog_1_method_28_code 48 = .ok (.getfield 321, 3) := by decide +kernel
theorem d_S_gain_51 : decode prog_1_method_28_code 51 = .ok (.iload_n 1, 1) := by decide +kernel
theorem d_S_gain_52 : decode prog_1_method_28_code 52 = .ok (.iaload, 1) := by decide +kernel
theorem d_S_gain_53 : decode prog_1_method_28_code 53 = .ok (.if_icmp .gt 69, 3) := by decide +kernel
theorem d_S_gain_56 : decode prog_1_method_28_code 56 = .ok (.aload_n 0, 1) := by decide +kernel
theorem d_S_gain_57 : decode prog_1_method_28_code 57 = .ok (.getfield 71, 3) := by decide +kernel
theorem d_S_gain_60 : decode prog_1_method_28_code 60 = .ok (.iload_n 1, 1) := by decide +kernel
theorem d_S_gain_61 : decode prog_1_method_28_code 61 = .ok (.iload_n 2, 1) := by decide +kernel
theorem d_S_gain_62 : decode prog_1_method_28_code 62 = .ok (.iload_n 3, 1) := by decide +kernel
theorem d_S_gain_63 : decode prog_1_method_28_code 63 = .ok (.iconst 0, 1) := by decide +kernel
theorem d_S_gain_64 : decode prog_1_method_28_code 64 = .ok (.iconst 0, 1) := by decide +kernel
theorem d_S_gain_65 : decode prog_1_method_28_code 65 = .ok (.invokevirtual 324, 3) := by decide +kernel
theorem d_S_gain_68 : decode prog_1_method_28_code 68 = .ok (.ifCond .eq 48, 3) := by decide +kernel
theorem d_S_gain_71 : decode prog_1_method_28_code 71 = .ok (.aload_n 0, 1) := by decide +kernel
theorem d_S_gain_72 : decode prog_1_method_28_code 72 = .ok (.getfield 85, 3) := by decide +kernel
theorem d_S_gain_75 : decode prog_1_method_28_code 75 = .ok (.invokevirtual 223, 3) := by decide +kernel
theorem d_S_gain_78 : decode prog_1_method_28_code 78 = .ok (.iconst 0, 1) := by decide +kernel
theorem d_S_gain_79 : decode prog_1_method_28_code 79 = .ok (.istore 4, 2) := by decide +kernel
theorem d_S_gain_81 : decode prog_1_method_28_code 81 = .ok (.iload 4, 2) := by decide +kernel
theorem d_S_gain_83 : decode prog_1_method_28_code 83 = .ok (.iload_n 3, 1) := by decide +kernel
theorem d_S_gain_84 : decode prog_1_method_28_code 84 = .ok (.if_icmp .ge 30, 3) := by decide +kernel
theorem d_S_gain_87 : decode prog_1_method_28_code 87 = .ok (.aload_n 0, 1) := by decide +kernel
theorem d_S_gain_88 : decode prog_1_method_28_code 88 = .ok (.getfield 85, 3) := by decide +kernel
theorem d_S_gain_91 : decode prog_1_method_28_code 91 = .ok (.aload_n 0, 1) := by decide +kernel
theorem d_S_gain_92 : decode prog_1_method_28_code 92 = .ok (.getfield 71, 3) := by decide +kernel
theorem d_S_gain_95 : decode prog_1_method_28_code 95 = .ok (.getfield 327, 3) := by decide +kernel
theorem d_S_gain_98 : decode prog_1_method_28_code 98 = .ok (.iload_n 1, 1) := by decide +kernel
theorem d_S_gain_99 : decode prog_1_method_28_code 99 = .ok (.iconst 5, 1) := by decide +kernel
theorem d_S_gain_100 : decode prog_1_method_28_code 100 = .ok (.imul, 1) := by decide +kernel
theorem d_S_gain_101 : decode prog_1_method_28_code 101 = .ok (.iload 4, 2) := by decide +kernel
theorem d_S_gain_103 : decode prog_1_method_28_code 103 = .ok (.iadd, 1) := by decide +kernel
theorem d_S_gain_104 : decode prog_1_method_28_code 104 = .ok (.iaload, 1) := by decide +kernel
theorem d_S_gain_105 : decode prog_1_method_28_code 105 = .ok (.invokevirtual 226, 3) := by decide +kernel
theorem d_S_gain_108 : decode prog_1_method_28_code 108 = .ok (.iinc 4 1, 3) := by decide +kernel
theorem d_S_gain_111 : decode prog_1_method_28_code 111 = .ok (.goto (-30), 3) := by decide +kernel
theorem d_S_gain_114 : decode prog_1_method_28_code 114 = .ok (.iconst 1, 1) := by decide +kernel
theorem d_S_gain_115 : decode prog_1_method_28_code 115 = .ok (.ireturn, 1) := by decide +kernel
theorem d_S_gain_116 : decode prog_1_method_28_code 116 = .ok (.iinc 3 1, 3) := by decide +kernel
theorem d_S_gain_119 : decode prog_1_method_28_code 119 = .ok (.goto (-76), 3) := by decide +kernel
theorem d_S_gain_122 : decode prog_1_method_28_code 122 = .ok (.iconst 0, 1) := by decide +kernel
theorem d_S_gain_123 : decode prog_1_method_28_code 123 = .ok (.ireturn, 1) := by decide +kernel
theorem d_S_left_0 : decode prog_1_method_29_code 0 = .ok (.aload_n 0, 1) := by decide +kernel
theorem d_S_left_1 : decode prog_1_method_29_code 1 = .ok (.getfield 62, 3) := by decide +kernel
theorem d_S_left_4 : decode prog_1_method_29_code 4 = .ok (.invokevirtual 281, 3) := by decide +kernel
theorem d_S_left_7 : decode prog_1_method_29_code 7 = .ok (.aload_n 0, 1) := by decide +kernel
theorem d_S_left_8 : decode prog_1_method_29_code 8 = .ok (.getfield 62, 3) := by decide +kernel
theorem d_S_left_11 : decode prog_1_method_29_code 11 = .ok (.getfield 284, 3) := by decide +kernel
theorem d_S_left_14 : decode prog_1_method_29_code 14 = .ok (.ifCond .ne 6, 3) := by decide +kernel
theorem d_S_left_17 : decode prog_1_method_29_code 17 = .ok (.bipush (-2), 2) := by decide +kernel
theorem d_S_left_19 : decode prog_1_method_29_code 19 = .ok (.ireturn, 1) := by decide +kernel
theorem d_S_left_20 : decode prog_1_method_29_code 20 = .ok (.iconst 0, 1) := by decide +kernel
theorem d_S_left_21 : decode prog_1_method_29_code 21 = .ok (.istore_n 1, 1) := by decide +kernel
theorem d_S_left_22 : decode prog_1_method_29_code 22 = .ok (.iconst 0, 1) := by decide +kernel
theorem d_S_left_23 : decode prog_1_method_29_code 23 = .ok (.istore_n 2, 1) := by decide +kernel
theorem d_S_left_24 : decode prog_1_method_29_code 24 = .ok (.iload_n 2, 1) := by decide +kernel
theorem d_S_left_25 : decode prog_1_method_29_code 25 = .ok (.aload_n 0, 1) := by decide +kernel
theorem d_S_left_26 : decode prog_1_method_29_code 26 = .ok (.getfield 62, 3) := by decide +kernel
theorem d_S_left_29 : decode prog_1_method_29_code 29 = .ok (.getfield 284, 3) := by decide +kernel
theorem d_S_left_32 : decode prog_1_method_29_code 32 = .ok (.if_icmp .ge 21, 3) := by decide +kernel
theorem d_S_left_35 : decode prog_1_method_29_code 35 = .ok (.iload_n 1, 1) := by decide +kernel
theorem d_S_left_36 : decode prog_1_method_29_code 36 = .ok (.aload_n 0, 1) := by decide +kernel
theorem d_S_left_37 : decode prog_1_method_29_code 37 = .ok (.getfield 62, 3) := by decide +kernel
theorem d_S_left_40 : decode prog_1_method_29_code 40 = .ok (.getfield 285, 3) := by decide +kernel
theorem d_S_left_43 : decode prog_1_method_29_code 43 = .ok (.iload_n 2, 1) := by decide +kernel
theorem d_S_left_44 : decode prog_1_method_29_code 44 = .ok (.iaload, 1) := by decide +kernel
theorem d_S_left_45 : decode prog_1_method_29_code 45 = .ok (.ior, 1) := by decide +kernel
theorem d_S_left_46 : decode prog_1_method_29_code 46 = .ok (.istore_n 1, 1) := by decide +kernel
theorem d_S_left_47 : decode prog_1_method_29_code 47 = .ok (.iinc 2 1, 3) := by decide +kernel
theorem d_S_left_50 : decode prog_1_method_29_code 50 = .ok (.goto (-26), 3) := by decide +kernel
theorem d_S_left_53 : decode prog_1_method_29_code 53 = .ok (.iconst 0, 1) := by decide +kernel
theorem d_S_left_54 : decode prog_1_method_29_code 54 = .ok (.istore_n 2, 1) := by decide +kernel
theorem d_S_left_55 : decode prog_1_method_29_code 55 = .ok (.iconst 0, 1) := by decide +kernel
theorem d_S_left_56 : decode prog_1_method_29_code 56 = .ok (.istore_n 3, 1) := by decide +kernel
theorem d_S_left_57 : decode prog_1_method_29_code 57 = .ok (.iload_n 3, 1) := by decide +kernel
theorem d_S_left_58 : decode prog_1_method_29_code 58 = .ok (.aload_n 0, 1) := by decide +kernel
theorem d_S_left_59 : decode prog_1_method_29_code 59 = .ok (.getfield 19, 3) := by decide +kernel
theorem d_S_left_62 : decode prog_1_method_29_code 62 = .ok (.getfield 100, 3) := by decide +kernel
theorem d_S_left_65 : decode prog_1_method_29_code 65 = .ok (.if_icmp .ge 29, 3) := by decide +kernel
theorem d_S_left_68 : decode prog_1_method_29_code 68 = .ok (.iload_n 1, 1) := by decide +kernel
theorem d_S_left_69 : decode prog_1_method_29_code 69 = .ok (.aload_n 0, 1) := by decide +kernel
theorem d_S_left_70 : decode prog_1_method_29_code 70 = .ok (.getfield 10, 3) := by decide +kernel
theorem d_S_left_73 : decode prog_1_method_29_code 73 = .ok (.getfield 330, 3) := by decide +kernel
theorem d_S_left_76 : decode prog_1_method_29_code 76 = .ok (.iload_n 3, 1) := by decide +kernel
theorem d_S_left_77 : decode prog_1_method_29_code 77 = .ok (.iaload, 1) := by decide +kernel
theorem d_S_left_78 : decode prog_1_method_29_code 78 = .ok (.iand, 1) := by decide +kernel
theorem d_S_left_79 : decode prog_1_method_29_code 79 = .ok (.ifCond .ne 9, 3) := by decide +kernel
theorem d_S_left_82 : decode prog_1_method_29_code 82 = .ok (.iload_n 2, 1) := by decide +kernel
theorem d_S_left_83 : decode prog_1_method_29_code 83 = .ok (.iconst 1, 1) := by decide +kernel
theorem d_S_left_84 : decode prog_1_method_29_code 84 = .ok (.iload_n 3, 1) := by decide +kernel
theorem d_S_left_85 : decode prog_1_method_29_code 85 = .ok (.ishl, 1) := by decide +kernel
theorem d_S_left_86 : decode prog_1_method_29_code 86 = .ok (.ior, 1) := by decide +kernel
theorem d_S_left_87 : decode prog_1_method_29_code 87 = .ok (.istore_n 2, 1) := by decide +kernel
theorem d_S_left_88 : decode prog_1_method_29_code 88 = .ok (.iinc 3 1, 3) := by decide +kernel
theorem d_S_left_91 : decode prog_1_method_29_code 91 = .ok (.goto (-34), 3) := by decide +kernel
theorem d_S_left_94 : decode prog_1_method_29_code 94 = .ok (.iload_n 2, 1) := by decide +kernel
theorem d_S_left_95 : decode prog_1_method_29_code 95 = .ok (.ireturn, 1) := by decide +kernel
theorem d_S_same_0 : decode prog_1_method_30_code 0 = .ok (.aload_n 0, 1) := by decide +kernel
theorem d_S_same_1 : decode prog_1_method_30_code 1 = .ok (.getfield 62, 3) := by decide +kernel
theorem d_S_same_4 : decode prog_1_method_30_code 4 = .ok (.invokevirtual 281, 3) := by decide +kernel
theorem d_S_same_7 : decode prog_1_method_30_code 7 = .ok (.aload_n 0, 1) := by decide +kernel
theorem d_S_same_8 : decode prog_1_method_30_code 8 = .ok (.getfield 62, 3) := by decide +kernel
theorem d_S_same_11 : decode prog_1_method_30_code 11 = .ok (.getfield 284, 3) := by decide +kernel
theorem d_S_same_14 : decode prog_1_method_30_code 14 = .ok (.ifCond .ne 6, 3) := by decide +kernel
theorem d_S_same_17 : decode prog_1_method_30_code 17 = .ok (.bipush (-2), 2) := by decide +kernel
theorem d_S_same_19 : decode prog_1_method_30_code 19 = .ok (.ireturn, 1) := by decide +kernel
theorem d_S_same_20 : decode prog_1_method_30_code 20 = .ok (.iconst 0, 1) := by decide +kernel
theorem d_S_same_21 : decode prog_1_method_30_code 21 = .ok (.istore_n 1, 1) := by decide +kernel
theorem d_S_same_22 : decode prog_1_method_30_code 22 = .ok (.iconst 1, 1) := by decide +kernel
theorem d_S_same_23 : decode prog_1_method_30_code 23 = .ok (.istore_n 2, 1) := by decide +kernel
theorem d_S_same_24 : decode prog_1_method_30_code 24 = .ok (.iload_n 2, 1) := by decide +kernel
theorem d_S_same_25 : decode prog_1_method_30_code 25 = .ok (.aload_n 0, 1) := by decide +kernel
theorem d_S_same_26 : decode prog_1_method_30_code 26 = .ok (.getfield 62, 3) := by decide +kernel
theorem d_S_same_29 : decode prog_1_method_30_code 29 = .ok (.getfield 284, 3) := by decide +kernel
theorem d_S_same_32 : decode prog_1_method_30_code 32 = .ok (.if_icmp .ge 31, 3) := by decide +kernel
theorem d_S_same_35 : decode prog_1_method_30_code 35 = .ok (.iload_n 1, 1) := by decide +kernel
theorem d_S_same_36 : decode prog_1_method_30_code 36 = .ok (.aload_n 0, 1) := by decide +kernel
theorem d_S_same_37 : decode prog_1_method_30_code 37 = .ok (.getfield 62, 3) := by decide +kernel
theorem d_S_same_40 : decode prog_1_method_30_code 40 = .ok (.getfield 285, 3) := by decide +kernel
theorem d_S_same_43 : decode prog_1_method_30_code 43 = .ok (.iconst 0, 1) := by decide +kernel
theorem d_S_same_44 : decode prog_1_method_30_code 44 = .ok (.iaload, 1) := by decide +kernel
theorem d_S_same_45 : decode prog_1_method_30_code 45 = .ok (.aload_n 0, 1) := by decide +kernel
theorem d_S_same_46 : decode prog_1_method_30_code 46 = .ok (.getfield 62, 3) := by decide +kernel
theorem d_S_same_49 : decode prog_1_method_30_code 49 = .ok (.getfield 285, 3) := by decide +kernel
theorem d_S_same_52 : decode prog_1_method_30_code 52 = .ok (.iload_n 2, 1) := by decide +kernel
theorem d_S_same_53 : decode prog_1_method_30_code 53 = .ok (.iaload, 1) := by decide +kernel
theorem d_S_same_54 : decode prog_1_method_30_code 54 = .ok (.ixor, 1) := by decide +kernel
theorem d_S_same_55 : decode prog_1_method_30_code 55 = .ok (.ior, 1) := by decide +kernel
theorem d_S_same_56 : decode prog_1_method_30_code 56 = .ok (.istore_n 1, 1) := by decide +kernel
theorem d_S_same_57 : decode prog_1_method_30_code 57 = .ok (.iinc 2 1, 3) := by decide +kernel
theorem d_S_same_60 : decode prog_1_method_30_code 60 = .ok (.goto (-36), 3) := by decide +kernel
theorem d_S_same_63 : decode prog_1_method_30_code 63 = .ok (.iconst 0, 1) := by decide +kernel
theorem d_S_same_64 : decode prog_1_method_30_code 64 = .ok (.istore_n 2, 1) := by decide +kernel
theorem d_S_same_65 : decode prog_1_method_30_code 65 = .ok (.iconst 0, 1) := by decide +kernel
theorem d_S_same_66 : decode prog_1_method_30_code 66 = .ok (.istore_n 3, 1) := by decide +kernel
theorem d_S_same_67 : decode prog_1_method_30_code 67 = .ok (.iload_n 3, 1) := by decide +kernel
theorem d_S_same_68 : decode prog_1_method_30_code 68 = .ok (.aload_n 0, 1) := by decide +kernel
theorem d_S_same_69 : decode prog_1_method_30_code 69 = .ok (.getfield 96, 3) := by decide +kernel
theorem d_S_same_72 : decode prog_1_method_30_code 72 = .ok (.if_icmp .ge 24, 3) := by decide +kernel
theorem d_S_same_75 : decode prog_1_method_30_code 75 = .ok (.aload_n 0, 1) := by decide +kernel
theorem d_S_same_76 : decode prog_1_method_30_code 76 = .ok (.iload_n 3, 1) := by decide +kernel
theorem d_S_same_77 : decode prog_1_method_30_code 77 = .ok (.iload_n 1, 1) := by decide +kernel
theorem d_S_same_78 : decode prog_1_method_30_code 78 = .ok (.invokevirtual 190, 3) := by decide +kernel
theorem d_S_same_81 : decode prog_1_method_30_code 81 = .ok (.ifCond .ne 9, 3) := by decide +kernel
theorem d_S_same_84 : decode prog_1_method_30_code 84 = .ok (.iload_n 2, 1) := by decide +kernel
theorem d_S_same_85 : decode prog_1_method_30_code 85 = .ok (.iconst 1, 1) := by decide +kernel
theorem d_S_same_86 : decode prog_1_method_30_code 86 = .ok (.iload_n 3, 1) := by decide +kernel
theorem d_S_same_87 : decode prog_1_method_30_code 87 = .ok (.ishl, 1) := by decide +kernel
theorem d_S_same_88 : decode prog_1_method_30_code 88 = .ok (.ior, 1) := by decide +kernel
theorem d_S_same_89 : decode prog_1_method_30_code 89 = .ok (.istore_n 2, 1) := by decide +kernel
theorem d_S_same_90 : decode prog_1_method_30_code 90 = .ok (.iinc 3 1, 3) := by decide +kernel
theorem d_S_same_93 : decode prog_1_method_30_code 93 = .ok (.goto (-26), 3) := by decide +kernel
