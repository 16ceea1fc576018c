theorem d_Co_init_0 : decode prog_4_method_1_code 0 = .ok (.aload_n 0, 1) := by decide +kernel
theorem d_Co_init_1 : decode prog_4_method_1_code 1 = .ok (.invokespecial 3, 3) := by decide +kernel
theorem d_Co_init_4 : decode prog_4_method_1_code 4 = .ok (.aload_n 0, 1) := by decide +kernel
theorem d_Co_init_5 : decode prog_4_method_1_code 5 = .ok (.iconst 2, 1) := by decide +kernel
theorem d_Co_init_6 : decode prog_4_method_1_code 6 = .ok (.newarray .int, 2) := by decide +kernel
theorem d_Co_init_8 : decode prog_4_method_1_code 8 = .ok (.putfield 11, 3) := by decide +kernel
theorem d_Co_init_11 : decode prog_4_method_1_code 11 = .ok (.aload_n 0, 1) := by decide +kernel
theorem d_Co_init_12 : decode prog_4_method_1_code 12 = .ok (.iconst 2, 1) := by decide +kernel
theorem d_Co_init_13 : decode prog_4_method_1_code 13 = .ok (.newarray .int, 2) := by decide +kernel
theorem d_Co_init_15 : decode prog_4_method_1_code 15 = .ok (.putfield 15, 3) := by decide +kernel
theorem d_Co_init_18 : decode prog_4_method_1_code 18 = .ok (.aload_n 0, 1) := by decide +kernel
theorem d_Co_init_19 : decode prog_4_method_1_code 19 = .ok (.iconst 2, 1) := by decide +kernel
theorem d_Co_init_20 : decode prog_4_method_1_code 20 = .ok (.newarray .int, 2) := by decide +kernel
theorem d_Co_init_22 : decode prog_4_method_1_code 22 = .ok (.putfield 18, 3) := by decide +kernel
theorem d_Co_init_25 : decode prog_4_method_1_code 25 = .ok (.aload_n 0, 1) := by decide +kernel
theorem d_Co_init_26 : decode prog_4_method_1_code 26 = .ok (.bipush 16, 2) := by decide +kernel
theorem d_Co_init_28 : decode prog_4_method_1_code 28 = .ok (.newarray .int, 2) := by decide +kernel
theorem d_Co_init_30 : decode prog_4_method_1_code 30 = .ok (.putfield 21, 3) := by decide +kernel
theorem d_Co_init_33 : decode prog_4_method_1_code 33 = .ok (.aload_n 0, 1) := by decide +kernel
theorem d_Co_init_34 : decode prog_4_method_1_code 34 = .ok (.bipush 16, 2) := by decide +kernel
theorem d_Co_init_36 : decode prog_4_method_1_code 36 = .ok (.newarray .int, 2) := by decide +kernel
theorem d_Co_init_38 : decode prog_4_method_1_code 38 = .ok (.putfield 24, 3) := by decide +kernel
theorem d_Co_init_41 : decode prog_4_method_1_code 41 = .ok (.return_, 1) := by decide +kernel
theorem d_Co_join_0 : decode prog_4_method_3_code 0 = .ok (.aload_n 0, 1) := by decide +kernel
theorem d_Co_join_1 : decode prog_4_method_3_code 1 = .ok (.getfield 11, 3) := by decide +kernel
theorem d_Co_join_4 : decode prog_4_method_3_code 4 = .ok (.aload_n 0, 1) := by decide +kernel
theorem d_Co_join_5 : decode prog_4_method_3_code 5 = .ok (.getfield 27, 3) := by decide +kernel
theorem d_Co_join_8 : decode prog_4_method_3_code 8 = .ok (.iload_n 1, 1) := by decide +kernel
theorem d_Co_join_9 : decode prog_4_method_3_code 9 = .ok (.iastore, 1) := by decide +kernel
theorem d_Co_join_10 : decode prog_4_method_3_code 10 = .ok (.aload_n 0, 1) := by decide +kernel
theorem d_Co_join_11 : decode prog_4_method_3_code 11 = .ok (.getfield 15, 3) := by decide +kernel
theorem d_Co_join_14 : decode prog_4_method_3_code 14 = .ok (.aload_n 0, 1) := by decide +kernel
theorem d_Co_join_15 : decode prog_4_method_3_code 15 = .ok (.getfield 27, 3) := by decide +kernel
theorem d_Co_join_18 : decode prog_4_method_3_code 18 = .ok (.iload_n 2, 1) := by decide +kernel
theorem d_Co_join_19 : decode prog_4_method_3_code 19 = .ok (.iastore, 1) := by decide +kernel
theorem d_Co_join_20 : decode prog_4_method_3_code 20 = .ok (.aload_n 0, 1) := by decide +kernel
theorem d_Co_join_21 : decode prog_4_method_3_code 21 = .ok (.dup, 1) := by decide +kernel
theorem d_Co_join_22 : decode prog_4_method_3_code 22 = .ok (.getfield 27, 3) := by decide +kernel
theorem d_Co_join_25 : decode prog_4_method_3_code 25 = .ok (.iconst 1, 1) := by decide +kernel
theorem d_Co_join_26 : decode prog_4_method_3_code 26 = .ok (.iadd, 1) := by decide +kernel
theorem d_Co_join_27 : decode prog_4_method_3_code 27 = .ok (.putfield 27, 3) := by decide +kernel
theorem d_Co_join_30 : decode prog_4_method_3_code 30 = .ok (.aload_n 0, 1) := by decide +kernel
theorem d_Co_join_31 : decode prog_4_method_3_code 31 = .ok (.getfield 27, 3) := by decide +kernel
theorem d_Co_join_34 : decode prog_4_method_3_code 34 = .ok (.iconst 1, 1) := by decide +kernel
theorem d_Co_join_35 : decode prog_4_method_3_code 35 = .ok (.isub, 1) := by decide +kernel
theorem d_Co_join_36 : decode prog_4_method_3_code 36 = .ok (.ireturn, 1) := by decide +kernel
theorem d_Co_enlist_0 : decode prog_4_method_4_code 0 = .ok (.iload_n 1, 1) := by decide +kernel
theorem d_Co_enlist_1 : decode prog_4_method_4_code 1 = .ok (.bipush 8, 2) := by decide +kernel
theorem d_Co_enlist_3 : decode prog_4_method_4_code 3 = .ok (.imul, 1) := by decide +kernel
theorem d_Co_enlist_4 : decode prog_4_method_4_code 4 = .ok (.aload_n 0, 1) := by decide +kernel
theorem d_Co_enlist_5 : decode prog_4_method_4_code 5 = .ok (.getfield 18, 3) := by decide +kernel
theorem d_Co_enlist_8 : decode prog_4_method_4_code 8 = .ok (.iload_n 1, 1) := by decide +kernel
theorem d_Co_enlist_9 : decode prog_4_method_4_code 9 = .ok (.iaload, 1) := by decide +kernel
theorem d_Co_enlist_10 : decode prog_4_method_4_code 10 = .ok (.iadd, 1) := by decide +kernel
theorem d_Co_enlist_11 : decode prog_4_method_4_code 11 = .ok (.istore 4, 2) := by decide +kernel
theorem d_Co_enlist_13 : decode prog_4_method_4_code 13 = .ok (.aload_n 0, 1) := by decide +kernel
theorem d_Co_enlist_14 : decode prog_4_method_4_code 14 = .ok (.getfield 21, 3) := by decide +kernel
theorem d_Co_enlist_17 : decode prog_4_method_4_code 17 = .ok (.iload 4, 2) := by decide +kernel
theorem d_Co_enlist_19 : decode prog_4_method_4_code 19 = .ok (.iload_n 2, 1) := by decide +kernel
theorem d_Co_enlist_20 : decode prog_4_method_4_code 20 = .ok (.iastore, 1) := by decide +kernel
theorem d_Co_enlist_21 : decode prog_4_method_4_code 21 = .ok (.aload_n 0, 1) := by decide +kernel
theorem d_Co_enlist_22 : decode prog_4_method_4_code 22 = .ok (.getfield 24, 3) := by decide +kernel
theorem d_Co_enlist_25 : decode prog_4_method_4_code 25 = .ok (.iload 4, 2) := by decide +kernel
theorem d_Co_enlist_27 : decode prog_4_method_4_code 27 = .ok (.iload_n 3, 1) := by decide +kernel
theorem d_Co_enlist_28 : decode prog_4_method_4_code 28 = .ok (.iastore, 1) := by decide +kernel
theorem d_Co_enlist_29 : decode prog_4_method_4_code 29 = .ok (.aload_n 0, 1) := by decide +kernel
theorem d_Co_enlist_30 : decode prog_4_method_4_code 30 = .ok (.getfield 18, 3) := by decide +kernel
theorem d_Co_enlist_33 : decode prog_4_method_4_code 33 = .ok (.iload_n 1, 1) := by decide +kernel
theorem d_Co_enlist_34 : decode prog_4_method_4_code 34 = .ok (.dup2, 1) := by decide +kernel
theorem d_Co_enlist_35 : decode prog_4_method_4_code 35 = .ok (.iaload, 1) := by decide +kernel
theorem d_Co_enlist_36 : decode prog_4_method_4_code 36 = .ok (.iconst 1, 1) := by decide +kernel
theorem d_Co_enlist_37 : decode prog_4_method_4_code 37 = .ok (.iadd, 1) := by decide +kernel
theorem d_Co_enlist_38 : decode prog_4_method_4_code 38 = .ok (.iastore, 1) := by decide +kernel
theorem d_Co_enlist_39 : decode prog_4_method_4_code 39 = .ok (.aload_n 0, 1) := by decide +kernel
theorem d_Co_enlist_40 : decode prog_4_method_4_code 40 = .ok (.getfield 18, 3) := by decide +kernel
theorem d_Co_enlist_43 : decode prog_4_method_4_code 43 = .ok (.iload_n 1, 1) := by decide +kernel
theorem d_Co_enlist_44 : decode prog_4_method_4_code 44 = .ok (.iaload, 1) := by decide +kernel
theorem d_Co_enlist_45 : decode prog_4_method_4_code 45 = .ok (.ireturn, 1) := by decide +kernel
theorem d_Co_has_0 : decode prog_4_method_2_code 0 = .ok (.iload_n 1, 1) := by decide +kernel
theorem d_Co_has_1 : decode prog_4_method_2_code 1 = .ok (.ifCond .lt 15, 3) := by decide +kernel
theorem d_Co_has_4 : decode prog_4_method_2_code 4 = .ok (.iload_n 1, 1) := by decide +kernel
theorem d_Co_has_5 : decode prog_4_method_2_code 5 = .ok (.aload_n 0, 1) := by decide +kernel
theorem d_Co_has_6 : decode prog_4_method_2_code 6 = .ok (.getfield 27, 3) := by decide +kernel
theorem d_Co_has_9 : decode prog_4_method_2_code 9 = .ok (.if_icmp .ge 7, 3) := by decide +kernel
theorem d_Co_has_12 : decode prog_4_method_2_code 12 = .ok (.iconst 1, 1) := by decide +kernel
theorem d_Co_has_13 : decode prog_4_method_2_code 13 = .ok (.goto 4, 3) := by decide +kernel
theorem d_Co_has_16 : decode prog_4_method_2_code 16 = .ok (.iconst 0, 1) := by decide +kernel
theorem d_Co_has_17 : decode prog_4_method_2_code 17 = .ok (.ireturn, 1) := by decide +kernel
theorem d_Co_rankOf_0 : decode prog_4_method_5_code 0 = .ok (.iload_n 2, 1) := by decide +kernel
theorem d_Co_rankOf_1 : decode prog_4_method_5_code 1 = .ok (.ifCond .ne 10, 3) := by decide +kernel
theorem d_Co_rankOf_4 : decode prog_4_method_5_code 4 = .ok (.aload_n 0, 1) := by decide +kernel
theorem d_Co_rankOf_5 : decode prog_4_method_5_code 5 = .ok (.getfield 18, 3) := by decide +kernel
theorem d_Co_rankOf_8 : decode prog_4_method_5_code 8 = .ok (.iload_n 1, 1) := by decide +kernel
theorem d_Co_rankOf_9 : decode prog_4_method_5_code 9 = .ok (.iaload, 1) := by decide +kernel
theorem d_Co_rankOf_10 : decode prog_4_method_5_code 10 = .ok (.ireturn, 1) := by decide +kernel
theorem d_Co_rankOf_11 : decode prog_4_method_5_code 11 = .ok (.iconst 0, 1) := by decide +kernel
theorem d_Co_rankOf_12 : decode prog_4_method_5_code 12 = .ok (.istore_n 3, 1) := by decide +kernel
theorem d_Co_rankOf_13 : decode prog_4_method_5_code 13 = .ok (.iload_n 3, 1) := by decide +kernel
theorem d_Co_rankOf_14 : decode prog_4_method_5_code 14 = .ok (.aload_n 0, 1) := by decide +kernel
theorem d_Co_rankOf_15 : decode prog_4_method_5_code 15 = .ok (.getfield 18, 3) := by decide +kernel
theorem d_Co_rankOf_18 : decode prog_4_method_5_code 18 = .ok (.iload_n 1, 1) := by decide +kernel
theorem d_Co_rankOf_19 : decode prog_4_method_5_code 19 = .ok (.iaload, 1) := by decide +kernel
theorem d_Co_rankOf_20 : decode prog_4_method_5_code 20 = .ok (.if_icmp .ge 26, 3) := by decide +kernel
theorem d_Co_rankOf_23 : decode prog_4_method_5_code 23 = .ok (.aload_n 0, 1) := by decide +kernel
theorem d_Co_rankOf_24 : decode prog_4_method_5_code 24 = .ok (.getfield 21, 3) := by decide +kernel
theorem d_Co_rankOf_27 : decode prog_4_method_5_code 27 = .ok (.iload_n 1, 1) := by decide +kernel
theorem d_Co_rankOf_28 : decode prog_4_method_5_code 28 = .ok (.bipush 8, 2) := by decide +kernel
theorem d_Co_rankOf_30 : decode prog_4_method_5_code 30 = .ok (.imul, 1) := by decide +kernel
theorem d_Co_rankOf_31 : decode prog_4_method_5_code 31 = .ok (.iload_n 3, 1) := by decide +kernel
theorem d_Co_rankOf_32 : decode prog_4_method_5_code 32 = .ok (.iadd, 1) := by decide +kernel
theorem d_Co_rankOf_33 : decode prog_4_method_5_code 33 = .ok (.iaload, 1) := by decide +kernel
theorem d_Co_rankOf_34 : decode prog_4_method_5_code 34 = .ok (.iload_n 2, 1) := by decide +kernel
theorem d_Co_rankOf_35 : decode prog_4_method_5_code 35 = .ok (.if_icmp .ne 5, 3) := by decide +kernel
theorem d_Co_rankOf_38 : decode prog_4_method_5_code 38 = .ok (.iload_n 3, 1) := by decide +kernel
theorem d_Co_rankOf_39 : decode prog_4_method_5_code 39 = .ok (.ireturn, 1) := by decide +kernel
theorem d_Co_rankOf_40 : decode prog_4_method_5_code 40 = .ok (.iinc 3 1, 3) := by decide +kernel
theorem d_Co_rankOf_43 : decode prog_4_method_5_code 43 = .ok (.goto (-30), 3) := by decide +kernel
theorem d_Co_rankOf_46 : decode prog_4_method_5_code 46 = .ok (.iconst (-1), 1) := by decide +kernel
theorem d_Co_rankOf_47 : decode prog_4_method_5_code 47 = .ok (.ireturn, 1) := by decide +kernel
