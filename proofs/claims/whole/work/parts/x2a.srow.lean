/-! SealedBonds.row: where it returns (im_S_row), where it throws (cnd_S_row) -/
theorem d_S_row_0 : decode prog_1_method_37_code 0 = .ok (.iload_n 1, 1) := by decide +kernel
theorem d_S_row_1 : decode prog_1_method_37_code 1 = .ok (.ifCond .lt 14, 3) := by decide +kernel
theorem d_S_row_4 : decode prog_1_method_37_code 4 = .ok (.iload_n 1, 1) := by decide +kernel
theorem d_S_row_5 : decode prog_1_method_37_code 5 = .ok (.aload_n 0, 1) := by decide +kernel
theorem d_S_row_6 : decode prog_1_method_37_code 6 = .ok (.getfield 85, 3) := by decide +kernel
theorem d_S_row_9 : decode prog_1_method_37_code 9 = .ok (.getfield 349, 3) := by decide +kernel
theorem d_S_row_12 : decode prog_1_method_37_code 12 = .ok (.if_icmp .lt 14, 3) := by decide +kernel
theorem d_S_row_15 : decode prog_1_method_37_code 15 = .ok (.new 359, 3) := by decide +kernel
theorem d_S_row_18 : decode prog_1_method_37_code 18 = .ok (.dup, 1) := by decide +kernel
theorem d_S_row_19 : decode prog_1_method_37_code 19 = .ok (.ldc_w 361, 3) := by decide +kernel
theorem d_S_row_22 : decode prog_1_method_37_code 22 = .ok (.invokespecial 363, 3) := by decide +kernel
theorem d_S_row_25 : decode prog_1_method_37_code 25 = .ok (.athrow, 1) := by decide +kernel
theorem d_S_row_26 : decode prog_1_method_37_code 26 = .ok (.aload_n 0, 1) := by decide +kernel
theorem d_S_row_27 : decode prog_1_method_37_code 27 = .ok (.getfield 85, 3) := by decide +kernel
theorem d_S_row_30 : decode prog_1_method_37_code 30 = .ok (.getfield 366, 3) := by decide +kernel
theorem d_S_row_33 : decode prog_1_method_37_code 33 = .ok (.iload_n 1, 1) := by decide +kernel
theorem d_S_row_34 : decode prog_1_method_37_code 34 = .ok (.iaload, 1) := by decide +kernel
theorem d_S_row_35 : decode prog_1_method_37_code 35 = .ok (.ireturn, 1) := by decide +kernel
abbrev y_S_row : MethodName := ⟨"SealedBonds", "row", "(I)I"⟩
theorem yb_S_row : YB y_S_row prog_1_method_37_code 2 (Option.some Jvm.ClassFile.FieldType.int) 1 := ⟨j_mem 1304 (by decide +kernel), j_mem 88 (by decide +kernel), by decide, by decide, by decide +kernel⟩
theorem yv_S_row : YV y_S_row 0 := ⟨j_mem 1302 (by decide +kernel), j_mem 1303 (by decide +kernel), rfl⟩
theorem fw_S_366 : FW "SealedBonds" 366 8 1 0 := ⟨j_mem 584 (by decide +kernel), by decide, by decide⟩
noncomputable def body_S_row : jSt := (s_seq (s_if (b_or (b_cmp .lt (x_iloc 1) (x_c (.int 0))) (b_cmp .ge (x_iloc 1) (x_fld 8 0 1 (x_fld 0 1 9 (x_aloc 0))))) s_fail s_skip) (s_ret (x_idx 1 (x_fld 8 1 0 (x_fld 0 1 9 (x_aloc 0))) (x_iloc 1))))
noncomputable def f_S_row : jF := j_meth 1 2 body_S_row
noncomputable def cnd_S_row : jB := (b_or (b_cmp .lt (x_iloc 1) (x_c (.int 0))) (b_cmp .ge (x_iloc 1) (x_fld 8 0 1 (x_fld 0 1 9 (x_aloc 0)))))
abbrev ms_S_row : jMs := ("SealedBonds", prog_1_method_37_code, 2, 10, 400, .ireturn, false)
def tg_S_row : Nat → Nat := fun l => match l with  | _ => 0
set_option maxRecDepth 100000 in
set_option maxHeartbeats 4000000 in
theorem im_S_row (X : jX) (l : Launch) : MOk X l y_S_row prog_1_method_37_code 2 (Option.some Jvm.ClassFile.FieldType.int) 10 400 f_S_row := mok (tg := tg_S_row) (pe := 0) (by decide) (Or.inr (Or.inl ⟨rfl, rfl, rfl⟩)) (ini := false) (fun q => by cases q) (fun C _ _ => show SI ms_S_row C tg_S_row 0 0 body_S_row from (si_seq (si_if (bi_or (b0_t (tgt := 15) (ei_i1 d_S_row_0) d_S_row_1 (by decide)) (bc_f (tgt := 26) (ei_i1 d_S_row_4) (ei_fw (ei_fw (ei_a0 d_S_row_5) d_S_row_6 fw_S_85) d_S_row_9 fw_S_349) d_S_row_12 (by decide) neg_ge)) si_fail si_skip) (si_ret (ei_idx (ei_fw (ei_fw (ei_a0 d_S_row_26) d_S_row_27 fw_S_85) d_S_row_30 fw_S_366) (ei_i1 d_S_row_33) (opa_i d_S_row_34)) d_S_row_35)))
theorem bw_S_row {C : jC} {M : jMs} (h0 : M.1 = "SealedBonds") (h1 : M.2.1 = prog_1_method_37_code) : BI M C 0 0 15 26 cnd_S_row := by
  obtain ⟨a, b, c⟩ := M
  simp only at h0 h1
  subst h0 h1
  exact (bi_or (b0_t (tgt := 15) (ei_i1 d_S_row_0) d_S_row_1 (by decide)) (bc_f (tgt := 26) (ei_i1 d_S_row_4) (ei_fw (ei_fw (ei_a0 d_S_row_5) d_S_row_6 fw_S_85) d_S_row_9 fw_S_349) d_S_row_12 (by decide) neg_ge))
