abbrev ms_R_init : jMs := ("SealedBonds$Row", prog_9_method_1_code, 1, 1, 40, .return_, true)
def tg_R_init : Nat → Nat := fun l => match l with  | _ => 0
set_option maxRecDepth 100000 in
set_option maxHeartbeats 4000000 in
theorem im_R_init (X : jX) (l : Launch) : MOk X l y_R_init prog_9_method_1_code 1 (Option.none : Option Jvm.ClassFile.FieldType) 1 40 f_R_init := mok (tg := tg_R_init) (pe := 0) (by decide) (Or.inl ⟨rfl, rfl, rfl⟩) (ini := true) (fun _ => rfl) (fun C _ _ => show SI ms_R_init C tg_R_init 0 0 body_R_init from (si_seq (si_super (ei_a0 d_R_init_0) d_R_init_1 oi_R_1 (by decide) (by decide)) (si_seq (si_fput (ei_a0 d_R_init_4) (ei_newa (ei_bi d_R_init_5 rfl) d_R_init_7 (by decide) (by decide) rfl) (op_pw d_R_init_9 pw_R_9_true_0)) (si_retv d_R_init_12))))
abbrev ms_R_add : jMs := ("SealedBonds$Row", prog_9_method_3_code, 2, 1, 40, .return_, false)
def tg_R_add : Nat → Nat := fun l => match l with  | _ => 0
set_option maxRecDepth 100000 in
set_option maxHeartbeats 4000000 in
theorem im_R_add (X : jX) (l : Launch) : MOk X l y_R_add prog_9_method_3_code 2 (Option.none : Option Jvm.ClassFile.FieldType) 1 40 f_R_add := mok (tg := tg_R_add) (pe := 0) (by decide) (Or.inl ⟨rfl, rfl, rfl⟩) (ini := false) (fun q => by cases q) (fun C _ _ => show SI ms_R_add C tg_R_add 0 0 body_R_add from (si_seq (si_if (bc_f (tgt := 29) (ei_fw (ei_a0 d_R_add_0) d_R_add_1 fw_R_13) (ei_bi d_R_add_4 rfl) d_R_add_6 (by decide) neg_lt) (si_seq (si_aput (ei_fw (ei_a0 d_R_add_9) d_R_add_10 fw_R_9) (ei_fw (ei_a0 d_R_add_13) d_R_add_14 fw_R_13) (ei_i1 d_R_add_17) (opt_i d_R_add_18)) (si_fopw (ei_a0 d_R_add_19) d_R_add_20 d_R_add_21 fw_R_13 (ei_ic d_R_add_24 rfl) (op_add d_R_add_25) (op_pw d_R_add_26 pw_R_13_false_0))) si_skip) (si_retv d_R_add_29)))
abbrev ms_R_empty : jMs := ("SealedBonds$Row", prog_9_method_2_code, 1, 1, 40, .return_, false)
def tg_R_empty : Nat → Nat := fun l => match l with  | _ => 0
set_option maxRecDepth 100000 in
set_option maxHeartbeats 4000000 in
theorem im_R_empty (X : jX) (l : Launch) : MOk X l y_R_empty prog_9_method_2_code 1 (Option.none : Option Jvm.ClassFile.FieldType) 1 40 f_R_empty := mok (tg := tg_R_empty) (pe := 0) (by decide) (Or.inl ⟨rfl, rfl, rfl⟩) (ini := false) (fun q => by cases q) (fun C _ _ => show SI ms_R_empty C tg_R_empty 0 0 body_R_empty from (si_seq (si_fput (ei_a0 d_R_empty_0) (ei_ic d_R_empty_1 rfl) (op_pw d_R_empty_2 pw_R_13_false_0)) (si_retv d_R_empty_5)))
