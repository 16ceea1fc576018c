abbrev y_Ch_init : MethodName := ⟨"SealedBonds$Choice", "<init>", "()V"⟩
theorem yb_Ch_init : YB y_Ch_init prog_3_method_1_code 1 (Option.none : Option Jvm.ClassFile.FieldType) 0 := ⟨j_mem 309 (by decide +kernel), j_mem 94 (by decide +kernel), by decide, by decide, by decide +kernel⟩
theorem yi_Ch_init : YI y_Ch_init := ⟨j_mem 308 (by decide +kernel), rfl⟩
abbrev y_Ch_reset : MethodName := ⟨"SealedBonds$Choice", "reset", "()V"⟩
theorem yb_Ch_reset : YB y_Ch_reset prog_3_method_2_code 1 (Option.none : Option Jvm.ClassFile.FieldType) 0 := ⟨j_mem 747 (by decide +kernel), j_mem 94 (by decide +kernel), by decide, by decide, by decide +kernel⟩
theorem yv_Ch_reset : YV y_Ch_reset 2 := ⟨j_mem 745 (by decide +kernel), j_mem 746 (by decide +kernel), rfl⟩
abbrev y_Ch_mostWith : MethodName := ⟨"SealedBonds$Choice", "mostWith", "(I)I"⟩
theorem yb_Ch_mostWith : YB y_Ch_mostWith prog_3_method_3_code 2 (Option.some Jvm.ClassFile.FieldType.int) 1 := ⟨j_mem 916 (by decide +kernel), j_mem 94 (by decide +kernel), by decide, by decide, by decide +kernel⟩
theorem yv_Ch_mostWith : YV y_Ch_mostWith 2 := ⟨j_mem 914 (by decide +kernel), j_mem 915 (by decide +kernel), rfl⟩
abbrev y_Ch_keepsApart : MethodName := ⟨"SealedBonds$Choice", "keepsApart", "(I)Z"⟩
theorem yb_Ch_keepsApart : YB y_Ch_keepsApart prog_3_method_5_code 3 (Option.some Jvm.ClassFile.FieldType.boolean) 1 := ⟨j_mem 941 (by decide +kernel), j_mem 94 (by decide +kernel), by decide, by decide, by decide +kernel⟩
theorem yv_Ch_keepsApart : YV y_Ch_keepsApart 2 := ⟨j_mem 939 (by decide +kernel), j_mem 940 (by decide +kernel), rfl⟩
abbrev y_Ch_keepsTogether : MethodName := ⟨"SealedBonds$Choice", "keepsTogether", "(I)Z"⟩
theorem yb_Ch_keepsTogether : YB y_Ch_keepsTogether prog_3_method_4_code 3 (Option.some Jvm.ClassFile.FieldType.boolean) 1 := ⟨j_mem 937 (by decide +kernel), j_mem 94 (by decide +kernel), by decide, by decide, by decide +kernel⟩
theorem yv_Ch_keepsTogether : YV y_Ch_keepsTogether 2 := ⟨j_mem 935 (by decide +kernel), j_mem 936 (by decide +kernel), rfl⟩
theorem fw_Ch_26 : FW "SealedBonds$Choice" 26 2 1 6 := ⟨j_mem 330 (by decide +kernel), by decide, by decide⟩
theorem fw_Ch_29 : FW "SealedBonds$Choice" 29 2 1 7 := ⟨j_mem 333 (by decide +kernel), by decide, by decide⟩
theorem fw_Ch_32 : FW "SealedBonds$Choice" 32 2 1 8 := ⟨j_mem 335 (by decide +kernel), by decide, by decide⟩
theorem fw_Ch_9 : FW "SealedBonds$Choice" 9 2 0 1 := ⟨j_mem 315 (by decide +kernel), by decide, by decide⟩
theorem pw_Ch_9_true_0 : PW "SealedBonds$Choice" true 9 2 0 0 1 := ⟨⟨j_mem 315 (by decide +kernel), by decide, by decide⟩, by decide, Or.inl rfl, by decide⟩
theorem pw_Ch_14_true_0 : PW "SealedBonds$Choice" true 14 2 0 0 2 := ⟨⟨j_mem 318 (by decide +kernel), by decide, by decide⟩, by decide, Or.inl rfl, by decide⟩
theorem pw_Ch_17_true_0 : PW "SealedBonds$Choice" true 17 2 1 0 4 := ⟨⟨j_mem 324 (by decide +kernel), by decide, by decide⟩, by decide, Or.inr ⟨rfl, rfl⟩, by decide⟩
theorem pw_Ch_21_true_0 : PW "SealedBonds$Choice" true 21 2 1 0 5 := ⟨⟨j_mem 327 (by decide +kernel), by decide, by decide⟩, by decide, Or.inr ⟨rfl, rfl⟩, by decide⟩
theorem pw_Ch_26_true_0 : PW "SealedBonds$Choice" true 26 2 1 0 6 := ⟨⟨j_mem 330 (by decide +kernel), by decide, by decide⟩, by decide, Or.inr ⟨rfl, rfl⟩, by decide⟩
theorem pw_Ch_29_true_0 : PW "SealedBonds$Choice" true 29 2 1 0 7 := ⟨⟨j_mem 333 (by decide +kernel), by decide, by decide⟩, by decide, Or.inr ⟨rfl, rfl⟩, by decide⟩
theorem pw_Ch_32_true_0 : PW "SealedBonds$Choice" true 32 2 1 0 8 := ⟨⟨j_mem 335 (by decide +kernel), by decide, by decide⟩, by decide, Or.inr ⟨rfl, rfl⟩, by decide⟩
theorem pw_Ch_35_false_1 : PW "SealedBonds$Choice" false 35 2 0 1 0 := ⟨⟨j_mem 312 (by decide +kernel), by decide, by decide⟩, by decide, Or.inl rfl, by decide⟩
theorem pw_Ch_9_false_0 : PW "SealedBonds$Choice" false 9 2 0 0 1 := ⟨⟨j_mem 315 (by decide +kernel), by decide, by decide⟩, by decide, Or.inl rfl, by decide⟩
theorem pw_Ch_14_false_0 : PW "SealedBonds$Choice" false 14 2 0 0 2 := ⟨⟨j_mem 318 (by decide +kernel), by decide, by decide⟩, by decide, Or.inl rfl, by decide⟩
theorem pw_Ch_39_false_0 : PW "SealedBonds$Choice" false 39 2 0 0 3 := ⟨⟨j_mem 321 (by decide +kernel), by decide, by decide⟩, by decide, Or.inl rfl, by decide⟩
theorem cl_Ch_42 : Jvm.Cond.methodLink "SealedBonds$Choice" 42 ⟨"java/util/Arrays", "fill", "([II)V"⟩ ∈ jtbl := j_mem 748 (by decide +kernel)
theorem cl_Ch_48 : Jvm.Cond.methodLink "SealedBonds$Choice" 48 ⟨"java/lang/Math", "min", "(II)I"⟩ ∈ jtbl := j_mem 917 (by decide +kernel)
theorem cl_Ch_54 : Jvm.Cond.methodLink "SealedBonds$Choice" 54 ⟨"java/lang/Math", "max", "(II)I"⟩ ∈ jtbl := j_mem 918 (by decide +kernel)
theorem oi_Ch_1 : Jvm.Cond.methodLink "SealedBonds$Choice" 1 objectInit ∈ jtbl := j_mem 310 (by decide +kernel)
theorem wk_Ch_13 : Jvm.Cond.constant "SealedBonds$Choice" 13 1000000 ∈ jtbl := j_mem 311 (by decide +kernel)
theorem d_Ch_init_0 : decode prog_3_method_1_code 0 = .ok (.aload_n 0, 1) := by decide +kernel
theorem d_Ch_init_1 : decode prog_3_method_1_code 1 = .ok (.invokespecial 1, 3) := by decide +kernel
theorem d_Ch_init_4 : decode prog_3_method_1_code 4 = .ok (.aload_n 0, 1) := by decide +kernel
theorem d_Ch_init_5 : decode prog_3_method_1_code 5 = .ok (.bipush 8, 2) := by decide +kernel
theorem d_Ch_init_7 : decode prog_3_method_1_code 7 = .ok (.putfield 9, 3) := by decide +kernel
theorem d_Ch_init_10 : decode prog_3_method_1_code 10 = .ok (.aload_n 0, 1) := by decide +kernel
theorem d_Ch_init_11 : decode prog_3_method_1_code 11 = .ok (.ldc 13, 2) := by decide +kernel
theorem d_Ch_init_13 : decode prog_3_method_1_code 13 = .ok (.putfield 14, 3) := by decide +kernel
theorem d_Ch_init_16 : decode prog_3_method_1_code 16 = .ok (.aload_n 0, 1) := by decide +kernel
theorem d_Ch_init_17 : decode prog_3_method_1_code 17 = .ok (.iconst 5, 1) := by decide +kernel
theorem d_Ch_init_18 : decode prog_3_method_1_code 18 = .ok (.newarray .int, 2) := by decide +kernel
theorem d_Ch_init_20 : decode prog_3_method_1_code 20 = .ok (.putfield 17, 3) := by decide +kernel
theorem d_Ch_init_23 : decode prog_3_method_1_code 23 = .ok (.aload_n 0, 1) := by decide +kernel
theorem d_Ch_init_24 : decode prog_3_method_1_code 24 = .ok (.iconst 5, 1) := by decide +kernel
theorem d_Ch_init_25 : decode prog_3_method_1_code 25 = .ok (.newarray .int, 2) := by decide +kernel
theorem d_Ch_init_27 : decode prog_3_method_1_code 27 = .ok (.putfield 21, 3) := by decide +kernel
theorem d_Ch_init_30 : decode prog_3_method_1_code 30 = .ok (.aload_n 0, 1) := by decide +kernel
theorem d_Ch_init_31 : decode prog_3_method_1_code 31 = .ok (.iconst 4, 1) := by decide +kernel
theorem d_Ch_init_32 : decode prog_3_method_1_code 32 = .ok (.newarray .int, 2) := by decide +kernel
theorem d_Ch_init_34 : decode prog_3_method_1_code 34 = .ok (.putfield 26, 3) := by decide +kernel
theorem d_Ch_init_37 : decode prog_3_method_1_code 37 = .ok (.aload_n 0, 1) := by decide +kernel
theorem d_Ch_init_38 : decode prog_3_method_1_code 38 = .ok (.bipush 7, 2) := by decide +kernel
theorem d_Ch_init_40 : decode prog_3_method_1_code 40 = .ok (.newarray .int, 2) := by decide +kernel
theorem d_Ch_init_42 : decode prog_3_method_1_code 42 = .ok (.putfield 29, 3) := by decide +kernel
theorem d_Ch_init_45 : decode prog_3_method_1_code 45 = .ok (.aload_n 0, 1) := by decide +kernel
theorem d_Ch_init_46 : decode prog_3_method_1_code 46 = .ok (.bipush 7, 2) := by decide +kernel
theorem d_Ch_init_48 : decode prog_3_method_1_code 48 = .ok (.newarray .int, 2) := by decide +kernel
theorem d_Ch_init_50 : decode prog_3_method_1_code 50 = .ok (.putfield 32, 3) := by decide +kernel
theorem d_Ch_init_53 : decode prog_3_method_1_code 53 = .ok (.return_, 1) := by decide +kernel
theorem d_Ch_reset_0 : decode prog_3_method_2_code 0 = .ok (.aload_n 0, 1) := by decide +kernel
theorem d_Ch_reset_1 : decode prog_3_method_2_code 1 = .ok (.iconst 0, 1) := by decide +kernel
theorem d_Ch_reset_2 : decode prog_3_method_2_code 2 = .ok (.putfield 35, 3) := by decide +kernel
theorem d_Ch_reset_5 : decode prog_3_method_2_code 5 = .ok (.aload_n 0, 1) := by decide +kernel
theorem d_Ch_reset_6 : decode prog_3_method_2_code 6 = .ok (.bipush 8, 2) := by decide +kernel
theorem d_Ch_reset_8 : decode prog_3_method_2_code 8 = .ok (.putfield 9, 3) := by decide +kernel
theorem d_Ch_reset_11 : decode prog_3_method_2_code 11 = .ok (.aload_n 0, 1) := by decide +kernel
theorem d_Ch_reset_12 : decode prog_3_method_2_code 12 = .ok (.ldc 13, 2) := by decide +kernel
theorem d_Ch_reset_14 : decode prog_3_method_2_code 14 = .ok (.putfield 14, 3) := by decide +kernel
theorem d_Ch_reset_17 : decode prog_3_method_2_code 17 = .ok (.aload_n 0, 1) := by decide +kernel
theorem d_Ch_reset_18 : decode prog_3_method_2_code 18 = .ok (.iconst 0, 1) := by decide +kernel
theorem d_Ch_reset_19 : decode prog_3_method_2_code 19 = .ok (.putfield 39, 3) := by decide +kernel
theorem d_Ch_reset_22 : decode prog_3_method_2_code 22 = .ok (.aload_n 0, 1) := by decide +kernel
theorem d_Ch_reset_23 : decode prog_3_method_2_code 23 = .ok (.getfield 26, 3) := by decide +kernel
theorem d_Ch_reset_26 : decode prog_3_method_2_code 26 = .ok (.iconst 0, 1) := by decide +kernel
theorem d_Ch_reset_27 : decode prog_3_method_2_code 27 = .ok (.invokestatic 42, 3) := by decide +kernel
theorem d_Ch_reset_30 : decode prog_3_method_2_code 30 = .ok (.aload_n 0, 1) := by decide +kernel
theorem d_Ch_reset_31 : decode prog_3_method_2_code 31 = .ok (.getfield 29, 3) := by decide +kernel
theorem d_Ch_reset_34 : decode prog_3_method_2_code 34 = .ok (.iconst 0, 1) := by decide +kernel
theorem d_Ch_reset_35 : decode prog_3_method_2_code 35 = .ok (.invokestatic 42, 3) := by decide +kernel
theorem d_Ch_reset_38 : decode prog_3_method_2_code 38 = .ok (.aload_n 0, 1) := by decide +kernel
theorem d_Ch_reset_39 : decode prog_3_method_2_code 39 = .ok (.getfield 32, 3) := by decide +kernel
theorem d_Ch_reset_42 : decode prog_3_method_2_code 42 = .ok (.iconst 0, 1) := by decide +kernel
theorem d_Ch_reset_43 : decode prog_3_method_2_code 43 = .ok (.invokestatic 42, 3) := by decide +kernel
theorem d_Ch_reset_46 : decode prog_3_method_2_code 46 = .ok (.return_, 1) := by decide +kernel
theorem d_Ch_mostWith_0 : decode prog_3_method_3_code 0 = .ok (.aload_n 0, 1) := by decide +kernel
theorem d_Ch_mostWith_1 : decode prog_3_method_3_code 1 = .ok (.getfield 9, 3) := by decide +kernel
theorem d_Ch_mostWith_4 : decode prog_3_method_3_code 4 = .ok (.bipush 8, 2) := by decide +kernel
theorem d_Ch_mostWith_6 : decode prog_3_method_3_code 6 = .ok (.aload_n 0, 1) := by decide +kernel
theorem d_Ch_mostWith_7 : decode prog_3_method_3_code 7 = .ok (.getfield 9, 3) := by decide +kernel
theorem d_Ch_mostWith_10 : decode prog_3_method_3_code 10 = .ok (.iload_n 1, 1) := by decide +kernel
theorem d_Ch_mostWith_11 : decode prog_3_method_3_code 11 = .ok (.iadd, 1) := by decide +kernel
theorem d_Ch_mostWith_12 : decode prog_3_method_3_code 12 = .ok (.invokestatic 48, 3) := by decide +kernel
theorem d_Ch_mostWith_15 : decode prog_3_method_3_code 15 = .ok (.invokestatic 54, 3) := by decide +kernel
theorem d_Ch_mostWith_18 : decode prog_3_method_3_code 18 = .ok (.ireturn, 1) := by decide +kernel
theorem d_Ch_keepsApart_0 : decode prog_3_method_5_code 0 = .ok (.iconst 0, 1) := by decide +kernel
theorem d_Ch_keepsApart_1 : decode prog_3_method_5_code 1 = .ok (.istore_n 2, 1) := by decide +kernel
theorem d_Ch_keepsApart_2 : decode prog_3_method_5_code 2 = .ok (.iload_n 2, 1) := by decide +kernel
theorem d_Ch_keepsApart_3 : decode prog_3_method_5_code 3 = .ok (.bipush 7, 2) := by decide +kernel
theorem d_Ch_keepsApart_5 : decode prog_3_method_5_code 5 = .ok (.if_icmp .ge 30, 3) := by decide +kernel
theorem d_Ch_keepsApart_8 : decode prog_3_method_5_code 8 = .ok (.iload_n 1, 1) := by decide +kernel
theorem d_Ch_keepsApart_9 : decode prog_3_method_5_code 9 = .ok (.iload_n 2, 1) := by decide +kernel
theorem d_Ch_keepsApart_10 : decode prog_3_method_5_code 10 = .ok (.iushr, 1) := by decide +kernel
theorem d_Ch_keepsApart_11 : decode prog_3_method_5_code 11 = .ok (.iconst 1, 1) := by decide +kernel
theorem d_Ch_keepsApart_12 : decode prog_3_method_5_code 12 = .ok (.iand, 1) := by decide +kernel
theorem d_Ch_keepsApart_13 : decode prog_3_method_5_code 13 = .ok (.ifCond .eq 16, 3) := by decide +kernel
theorem d_Ch_keepsApart_16 : decode prog_3_method_5_code 16 = .ok (.aload_n 0, 1) := by decide +kernel
theorem d_Ch_keepsApart_17 : decode prog_3_method_5_code 17 = .ok (.getfield 32, 3) := by decide +kernel
theorem d_Ch_keepsApart_20 : decode prog_3_method_5_code 20 = .ok (.iload_n 2, 1) := by decide +kernel
theorem d_Ch_keepsApart_21 : decode prog_3_method_5_code 21 = .ok (.iaload, 1) := by decide +kernel
theorem d_Ch_keepsApart_22 : decode prog_3_method_5_code 22 = .ok (.iload_n 1, 1) := by decide +kernel
theorem d_Ch_keepsApart_23 : decode prog_3_method_5_code 23 = .ok (.iand, 1) := by decide +kernel
theorem d_Ch_keepsApart_24 : decode prog_3_method_5_code 24 = .ok (.ifCond .eq 5, 3) := by decide +kernel
theorem d_Ch_keepsApart_27 : decode prog_3_method_5_code 27 = .ok (.iconst 0, 1) := by decide +kernel
theorem d_Ch_keepsApart_28 : decode prog_3_method_5_code 28 = .ok (.ireturn, 1) := by decide +kernel
theorem d_Ch_keepsApart_29 : decode prog_3_method_5_code 29 = .ok (.iinc 2 1, 3) := by decide +kernel
theorem d_Ch_keepsApart_32 : decode prog_3_method_5_code 32 = .ok (.goto (-30), 3) := by decide +kernel
theorem d_Ch_keepsApart_35 : decode prog_3_method_5_code 35 = .ok (.iconst 1, 1) := by decide +kernel
theorem d_Ch_keepsApart_36 : decode prog_3_method_5_code 36 = .ok (.ireturn, 1) := by decide +kernel
theorem d_Ch_keepsTogether_0 : decode prog_3_method_4_code 0 = .ok (.iconst 0, 1) := by decide +kernel
theorem d_Ch_keepsTogether_1 : decode prog_3_method_4_code 1 = .ok (.istore_n 2, 1) := by decide +kernel
theorem d_Ch_keepsTogether_2 : decode prog_3_method_4_code 2 = .ok (.iload_n 2, 1) := by decide +kernel
theorem d_Ch_keepsTogether_3 : decode prog_3_method_4_code 3 = .ok (.bipush 7, 2) := by decide +kernel
theorem d_Ch_keepsTogether_5 : decode prog_3_method_4_code 5 = .ok (.if_icmp .ge 32, 3) := by decide +kernel
theorem d_Ch_keepsTogether_8 : decode prog_3_method_4_code 8 = .ok (.iload_n 1, 1) := by decide +kernel
theorem d_Ch_keepsTogether_9 : decode prog_3_method_4_code 9 = .ok (.iload_n 2, 1) := by decide +kernel
theorem d_Ch_keepsTogether_10 : decode prog_3_method_4_code 10 = .ok (.iushr, 1) := by decide +kernel
theorem d_Ch_keepsTogether_11 : decode prog_3_method_4_code 11 = .ok (.iconst 1, 1) := by decide +kernel
theorem d_Ch_keepsTogether_12 : decode prog_3_method_4_code 12 = .ok (.iand, 1) := by decide +kernel
theorem d_Ch_keepsTogether_13 : decode prog_3_method_4_code 13 = .ok (.ifCond .eq 18, 3) := by decide +kernel
theorem d_Ch_keepsTogether_16 : decode prog_3_method_4_code 16 = .ok (.aload_n 0, 1) := by decide +kernel
theorem d_Ch_keepsTogether_17 : decode prog_3_method_4_code 17 = .ok (.getfield 29, 3) := by decide +kernel
theorem d_Ch_keepsTogether_20 : decode prog_3_method_4_code 20 = .ok (.iload_n 2, 1) := by decide +kernel
theorem d_Ch_keepsTogether_21 : decode prog_3_method_4_code 21 = .ok (.iaload, 1) := by decide +kernel
theorem d_Ch_keepsTogether_22 : decode prog_3_method_4_code 22 = .ok (.iload_n 1, 1) := by decide +kernel
theorem d_Ch_keepsTogether_23 : decode prog_3_method_4_code 23 = .ok (.iconst (-1), 1) := by decide +kernel
theorem d_Ch_keepsTogether_24 : decode prog_3_method_4_code 24 = .ok (.ixor, 1) := by decide +kernel
theorem d_Ch_keepsTogether_25 : decode prog_3_method_4_code 25 = .ok (.iand, 1) := by decide +kernel
theorem d_Ch_keepsTogether_26 : decode prog_3_method_4_code 26 = .ok (.ifCond .eq 5, 3) := by decide +kernel
theorem d_Ch_keepsTogether_29 : decode prog_3_method_4_code 29 = .ok (.iconst 0, 1) := by decide +kernel
theorem d_Ch_keepsTogether_30 : decode prog_3_method_4_code 30 = .ok (.ireturn, 1) := by decide +kernel
theorem d_Ch_keepsTogether_31 : decode prog_3_method_4_code 31 = .ok (.iinc 2 1, 3) := by decide +kernel
theorem d_Ch_keepsTogether_34 : decode prog_3_method_4_code 34 = .ok (.goto (-32), 3) := by decide +kernel
theorem d_Ch_keepsTogether_37 : decode prog_3_method_4_code 37 = .ok (.iconst 1, 1) := by decide +kernel
theorem d_Ch_keepsTogether_38 : decode prog_3_method_4_code 38 = .ok (.ireturn, 1) := by decide +kernel
