/-! the Walk: step -/
noncomputable def ws_0 : jSt := (s_if (b_cmp .ge (x_iloc 1) (x_fld 11 0 6 (x_aloc 0))) (s_ret (x_callv 11 f_W_arrive (xs_cons (x_aloc 0) (xs_cons (x_iloc 2) (xs_cons (x_iloc 3) (xs_cons (x_iloc 4) xs_nil)))))) s_skip)
noncomputable def ws_1 (rec : jF) : jSt := (s_if (b_ofi (x_callv 11 rec (xs_cons (x_aloc 0) (xs_cons (x_bin o_add (x_iloc 1) (x_c (.int (nI 1)))) (xs_cons (x_iloc 2) (xs_cons (x_iloc 3) (xs_cons (x_iloc 4) (xs_cons (x_iloc 5) xs_nil)))))))) (s_ret (x_c (.int (nI 1)))) s_skip)
noncomputable def ws_2 : jSt := (s_set 0 6 (x_idx 1 (x_fld 11 1 4 (x_aloc 0)) (x_iloc 1)))
noncomputable def ws_3 : jSt := (s_set 0 7 (x_bin o_shl (x_c (.int (nI 1))) (x_idx 1 (x_fld 1 1 1 (x_fld 11 1 0 (x_aloc 0))) (x_iloc 6))))
noncomputable def ws_4 : jSt := (s_set 0 8 (x_bin o_or (x_iloc 3) (x_bin o_shl (x_c (.int (nI 1))) (x_idx 1 (x_fld 1 1 6 (x_fld 11 1 0 (x_aloc 0))) (x_iloc 6)))))
noncomputable def ws_5 : jSt := (s_if (b_or (b_cmp .ne (x_bin o_and (x_iloc 5) (x_iloc 7)) (x_c (.int 0))) (b_not (b_ofi (x_callv 5 f_Ma_mayGrow (xs_cons (x_fld 11 1 3 (x_aloc 0)) (xs_cons (x_idx 1 (x_fld 1 1 2 (x_fld 11 1 0 (x_aloc 0))) (x_iloc 6)) (xs_cons (x_iloc 8) xs_nil))))))) (s_ret (x_c (.int (nI 0)))) s_skip)
noncomputable def ws_6 (rec : jF) : jSt := (s_ret (x_callv 11 rec (xs_cons (x_aloc 0) (xs_cons (x_bin o_add (x_iloc 1) (x_c (.int (nI 1)))) (xs_cons (x_bin o_or (x_iloc 2) (x_bin o_shl (x_c (.int (nI 1))) (x_iloc 6))) (xs_cons (x_iloc 8) (xs_cons (x_bin o_xor (x_iloc 4) (x_idx 1 (x_fld 11 1 5 (x_aloc 0)) (x_iloc 6))) (xs_cons (x_bin o_or (x_iloc 5) (x_iloc 7)) xs_nil))))))))
theorem W_step_body (rec : jF) : body_W_step rec = (s_seq ws_0 (s_seq (ws_1 rec) (s_seq ws_2 (s_seq ws_3 (s_seq ws_4 (s_seq ws_5 (ws_6 rec))))))) := rfl
theorem W_step_s (n : Nat) : f_W_step (n + 1) = j_meth 2 9 (s_seq ws_0 (s_seq (ws_1 (f_W_step n)) (s_seq ws_2 (s_seq ws_3 (s_seq ws_4 (s_seq ws_5 (ws_6 (f_W_step n)))))))) := rfl
/-- what the walk keeps of the heap, and what comes of it, for any state s of the one that arrives -/
theorem W_step_end {A : AS} {mv : Nat → Nat} {h h' : jHp} {n S : Nat} {b : Bool} (x : MV A mv h) (hl : WLv A h) (ea : f_W_arrive [.ref 73, .int (nI S), .int (nI (slM A S)), .int (nI (slM A (sWt A S)))] h = some (some (.int (if b then 1 else 0)), h')) (U : Int32) : f_W_step (n + 1) [.ref 73, .int (nI (lvL A (aNb A)).length), .int (nI S), .int (nI (slM A S)), .int (nI (slM A (sWt A S))), .int U] h = some (some (.int (if b then 1 else 0)), h') := by
  have hs := x.1.1.1
  have w := x.1.1.2.1
  have h20 := w.2.2.1.1
  have hll := lvL_len A (aNb A)
  have c6 := hl.1
  rw [W_step_s]
  generalize f_W_step n = rec
  generalize (lvL A (aNb A)).length = L at *
  generalize slM A S = s1 at *
  generalize slM A (sWt A S) = s2 at *
  clear x hl
  have e0 : ws_0 ([.ref 73, .int (nI L), .int (nI S), .int (nI s1), .int (nI s2), .int U, .null, .null, .null], h) = some (.inr (some (.int (if b then 1 else 0))), ([.ref 73, .int (nI L), .int (nI S), .int (nI s1), .int (nI s2), .int U, .null, .null, .null], h')) := by
    cases b <;> simp (disch := first | assumption | omega) [ws_0, j_meth, j_out, j_rok, j_pad, lg_sl, s_seq_w, isN_inl, isN_inr, s_if, jb, x_c, x_iloc, x_aloc, x_lloc, x_bin, x_un, o_add, o_sub, o_mul, o_and, o_or, o_xor, o_shl, o_shr, o_ushr, o_max, o_min, o_i2b, o_i2c, o_i2l, o_l2i, x_fld, j_fget, x_idx, j_aget, x_len, j_alen, x_ofb, x_ite, xs_nil, xs_cons, x_callv, x_calls, s_callv, s_calls, j_recv, j_ret, j_retv, b_cmp, b_and, b_or, b_not, b_ofi, b_ite, b_true, s_skip, s_set, j_ty, j_lset, j_kill, s_inc, s_fput, j_fput, s_fop, s_aput, j_aput, j_nar, s_aop, s_ret, s_retv, s_go, s_pop, x_linc, x_finc, Value.category, if_icmp.holds, List.flatMap_cons, List.flatMap_nil, List.length_cons, List.length_append, List.length_nil, List.set_cons_succ, List.set_cons_zero, List.getElem?_cons_succ, List.getElem?_cons_zero, List.replicate, ite_and', ite_or', ite_int', nI_leI, nI_ltI, nI_eq, nI_add, nI_1, pk_mul, nI_clamp, n_in', nI_pos', nI_pos, n_m1e, n_01, n_10, sT_1, sR_1_0, sR_1_1, sR_1_2, sR_1_3, sR_1_4, sR_1_5, sR_1_6, sR_1_7, sR_1_8, sR_1_9, sT_2, sT_3, sT_4, sT_5, sT_6, sT_7, sT_8, sT_9, sT_10, sT_11, sT_12, sT_13, sT_14, sR_2_1, sR_2_2, sR_2_3, sR_2_4, sR_2_5, sR_2_6, sR_2_7, sR_2_8, sR_2_9, sR_2_10, sR_2_11, sR_2_12, sT_15, sT_16, sT_17, sT_18, sT_19, sT_20, sT_21, sT_22, sT_23, sR_15_1, sR_15_2, sR_15_3, sR_15_4, sR_15_5, sR_15_6, sR_15_7, sR_15_8, sT_24, sT_25, sT_26, sT_27, sT_28, sT_29, sR_24_1, sR_24_2, sR_24_3, sR_24_4, sR_24_5, sT_71, sT_72, sR_71_0, sR_71_1, sR_71_2, sR_71_3, sR_71_4, sT_73, sT_74, sT_75, sR_73_0, sR_73_1, sR_73_2, sR_73_3, sR_73_4, sR_73_5, sT_84, sT_85, sT_86, sT_87, sR_84_0, sR_84_1, sR_84_2, sR_84_3, sR_84_4, sR_84_5, sT_88, sT_89, sR_88_0, sT_90, sT_91, sR_90_0, c6, ea]
  cases b <;> simp (disch := first | assumption | omega) [j_meth, j_out, j_rok, j_pad, lg_sl, s_seq_w, isN_inl, isN_inr, s_if, jb, x_c, x_iloc, x_aloc, x_lloc, x_bin, x_un, o_add, o_sub, o_mul, o_and, o_or, o_xor, o_shl, o_shr, o_ushr, o_max, o_min, o_i2b, o_i2c, o_i2l, o_l2i, x_fld, j_fget, x_idx, j_aget, x_len, j_alen, x_ofb, x_ite, xs_nil, xs_cons, x_callv, x_calls, s_callv, s_calls, j_recv, j_ret, j_retv, b_cmp, b_and, b_or, b_not, b_ofi, b_ite, b_true, s_skip, s_set, j_ty, j_lset, j_kill, s_inc, s_fput, j_fput, s_fop, s_aput, j_aput, j_nar, s_aop, s_ret, s_retv, s_go, s_pop, x_linc, x_finc, Value.category, if_icmp.holds, List.flatMap_cons, List.flatMap_nil, List.length_cons, List.length_append, List.length_nil, List.set_cons_succ, List.set_cons_zero, List.getElem?_cons_succ, List.getElem?_cons_zero, List.replicate, e0]
theorem W_step_go {A : AS} {mv : Nat → Nat} {h h1 : jHp} {n k S b : Nat} {c : Bool} (w : WF A) (hk : k < (lvL A (aNb A)).length) (hkb : (lvL A (aNb A)).getD k 0 = b) (oS : okS A S) (hs : Shape h) (hl : WLv A h) (x1 : MV A mv h1) (hl1 : WLv A h1)
    (e1 : f_W_step n [.ref 73, .int (nI (k + 1)), .int (nI S), .int (nI (slM A S)), .int (nI (slM A (sWt A S))), .int (nI (sPpl A S))] h = some (some (.int (if c then 1 else 0)), h1)) :
    (c = true → f_W_step (n + 1) [.ref 73, .int (nI k), .int (nI S), .int (nI (slM A S)), .int (nI (slM A (sWt A S))), .int (nI (sPpl A S))] h = some (some (.int 1), h1)) ∧
    (c = false → wkO A mv S b = false → f_W_step (n + 1) [.ref 73, .int (nI k), .int (nI S), .int (nI (slM A S)), .int (nI (slM A (sWt A S))), .int (nI (sPpl A S))] h = some (some (.int 0), h1)) ∧
    (c = false → wkO A mv S b = true → okS A (S ||| 2 ^ b) ∧ ∀ (c' : Bool) h2, f_W_step n [.ref 73, .int (nI (k + 1)), .int (nI (S ||| 2 ^ b)), .int (nI (slM A (S ||| 2 ^ b))), .int (nI (slM A (sWt A (S ||| 2 ^ b)))), .int (nI (sPpl A (S ||| 2 ^ b)))] h1 = some (some (.int (if c' then 1 else 0)), h2) → f_W_step (n + 1) [.ref 73, .int (nI k), .int (nI S), .int (nI (slM A S)), .int (nI (slM A (sWt A S))), .int (nI (sPpl A S))] h = some (some (.int (if c' then 1 else 0)), h2)) := by
  have hs1 := x1.1.1.1
  have h20 := w.2.2.1.1
  have hll := lvL_len A (aNb A)
  have hbm : b ∈ lvL A (aNb A) := by rw [← hkb]; exact getD_mem' hk
  obtain ⟨hb, hlv⟩ := (lvL_mem _ _).mp hbm
  have c6 := hl.1
  have d74 := hl1.2.1 k hk
  rw [hkb] at d74
  have d75 := hl1.2.2 b hbm
  obtain ⟨e3, e4, -, -, -, e8, -⟩ := x1.1.1.2.2.1.2.1 b hb
  have hpe := (w.2.2.1.2.1 b hb).1
  have hof := (w.2.2.1.2.1 b hb).2.1
  have hp7 := w.1.1
  have ho4 := w.2.1
  have hsl := sSlot_lt w hb
  have hsh := n_shl 1 (k := sSlot A b) hsl
  have hsh2 := n_shl 1 (k := aPe A b) (by omega)
  have hsh3 := n_shl 1 (k := b) (by omega)
  rw [Nat.one_mul] at hsh hsh2 hsh3
  have hand : nI (sPpl A S) &&& nI (2 ^ aPe A b) = nI (((sPpl A S).testBit (aPe A b)).toNat * 2 ^ aPe A b) := by rw [n_and, and_two_pow]
  have hor : nI (slM A S) ||| nI (2 ^ sSlot A b) = nI (slM A (S ||| 2 ^ b)) := by rw [n_or, slM_or, slM_1 w hb]
  have hor2 : nI (sPpl A S) ||| nI (2 ^ aPe A b) = nI (sPpl A (S ||| 2 ^ b)) := by rw [n_or, ppl_or hb]
  have hor3 : nI S ||| nI (2 ^ b) = nI (S ||| 2 ^ b) := n_or _ _
  have eg := e_Ma_mayGrow x1 (o := aOf A b) (S := S ||| 2 ^ b) (by omega)
  have hne : (nI (2 ^ aPe A b) = 0) = False := by
    have h7 : 2 ^ aPe A b < 2 ^ 7 := Nat.pow_lt_pow_right (by decide) (by omega)
    have hp := Nat.two_pow_pos (aPe A b)
    exact eq_false fun e => by
      have := (n_eq0 (by omega)).mp e
      omega
  have h00 : (nI 0 = 0) = True := by decide
  have h10 : ((1 : Int32) = 0) = False := by decide
  have hxor : wkO A mv S b = true → nI (slM A (sWt A S)) ^^^ nI (chg A b) = nI (slM A (sWt A (S ||| 2 ^ b))) := fun q => by
    unfold wkO at q
    rw [Bool.and_eq_true] at q
    have hu : (sPpl A S).testBit (aPe A b) = false := by simpa using q.1
    rw [n_xor, ← wtM_ok w oS.2.2, ← wtM_ok w (okS_or w oS hb hu hlv).2.2, wt_or w oS hb hu hlv]
  have hok : wkO A mv S b = true → okS A (S ||| 2 ^ b) := fun q => by
    unfold wkO at q
    rw [Bool.and_eq_true] at q
    have hu : (sPpl A S).testBit (aPe A b) = false := by simpa using q.1
    exact okS_or w oS hb hu hlv
  rw [W_step_s]
  unfold wkO at *
  generalize f_W_step n = rec at *
  clear hl hl1 x1 oS hlv hbm hkb
  generalize (lvL A (aNb A)).length = L at *
  generalize slM A (sWt A S) = s2 at *
  generalize slM A (sWt A (S ||| 2 ^ b)) = t2 at *
  generalize slM A S = s1 at *
  generalize tG A (aOf A b) (mv (aOf A b)) (prt (aOf A b) (slM A (S ||| 2 ^ b))) = tg at *
  generalize slM A (S ||| 2 ^ b) = t1 at *
  generalize (sPpl A S).testBit (aPe A b) = pb at *
  generalize sPpl A (S ||| 2 ^ b) = t3 at *
  generalize sPpl A S = s3 at *
  generalize hT : S ||| 2 ^ b = T at *
  generalize 2 ^ aPe A b = z3 at *
  generalize 2 ^ sSlot A b = z1 at *
  generalize 2 ^ b = z0 at *
  have a0 : ws_0 ([.ref 73, .int (nI k), .int (nI S), .int (nI s1), .int (nI s2), .int (nI s3), .null, .null, .null], h) = some (.inl 0, ([.ref 73, .int (nI k), .int (nI S), .int (nI s1), .int (nI s2), .int (nI s3), .null, .null, .null], h)) := by
    simp (disch := first | assumption | omega) [ws_0, j_meth, j_out, j_rok, j_pad, lg_sl, s_seq_w, isN_inl, isN_inr, s_if, jb, x_c, x_iloc, x_aloc, x_lloc, x_bin, x_un, o_add, o_sub, o_mul, o_and, o_or, o_xor, o_shl, o_shr, o_ushr, o_max, o_min, o_i2b, o_i2c, o_i2l, o_l2i, x_fld, j_fget, x_idx, j_aget, x_len, j_alen, x_ofb, x_ite, xs_nil, xs_cons, x_callv, x_calls, s_callv, s_calls, j_recv, j_ret, j_retv, b_cmp, b_and, b_or, b_not, b_ofi, b_ite, b_true, s_skip, s_set, j_ty, j_lset, j_kill, s_inc, s_fput, j_fput, s_fop, s_aput, j_aput, j_nar, s_aop, s_ret, s_retv, s_go, s_pop, x_linc, x_finc, Value.category, if_icmp.holds, List.flatMap_cons, List.flatMap_nil, List.length_cons, List.length_append, List.length_nil, List.set_cons_succ, List.set_cons_zero, List.getElem?_cons_succ, List.getElem?_cons_zero, List.replicate, ite_and', ite_or', ite_int', nI_leI, nI_ltI, nI_eq, nI_add, nI_1, pk_mul, nI_clamp, n_in', nI_pos', nI_pos, n_m1e, n_01, n_10, sT_1, sR_1_0, sR_1_1, sR_1_2, sR_1_3, sR_1_4, sR_1_5, sR_1_6, sR_1_7, sR_1_8, sR_1_9, sT_2, sT_3, sT_4, sT_5, sT_6, sT_7, sT_8, sT_9, sT_10, sT_11, sT_12, sT_13, sT_14, sR_2_1, sR_2_2, sR_2_3, sR_2_4, sR_2_5, sR_2_6, sR_2_7, sR_2_8, sR_2_9, sR_2_10, sR_2_11, sR_2_12, sT_15, sT_16, sT_17, sT_18, sT_19, sT_20, sT_21, sT_22, sT_23, sR_15_1, sR_15_2, sR_15_3, sR_15_4, sR_15_5, sR_15_6, sR_15_7, sR_15_8, sT_24, sT_25, sT_26, sT_27, sT_28, sT_29, sR_24_1, sR_24_2, sR_24_3, sR_24_4, sR_24_5, sT_71, sT_72, sR_71_0, sR_71_1, sR_71_2, sR_71_3, sR_71_4, sT_73, sT_74, sT_75, sR_73_0, sR_73_1, sR_73_2, sR_73_3, sR_73_4, sR_73_5, sT_84, sT_85, sT_86, sT_87, sR_84_0, sR_84_1, sR_84_2, sR_84_3, sR_84_4, sR_84_5, sT_88, sT_89, sR_88_0, sT_90, sT_91, sR_90_0, c6, hk]
  have a1 : ws_1 rec ([.ref 73, .int (nI k), .int (nI S), .int (nI s1), .int (nI s2), .int (nI s3), .null, .null, .null], h) = some (if c then .inr (some (.int 1)) else .inl 0, ([.ref 73, .int (nI k), .int (nI S), .int (nI s1), .int (nI s2), .int (nI s3), .null, .null, .null], h1)) := by
    cases c <;> simp (disch := first | assumption | omega) [ws_1, j_meth, j_out, j_rok, j_pad, lg_sl, s_seq_w, isN_inl, isN_inr, s_if, jb, x_c, x_iloc, x_aloc, x_lloc, x_bin, x_un, o_add, o_sub, o_mul, o_and, o_or, o_xor, o_shl, o_shr, o_ushr, o_max, o_min, o_i2b, o_i2c, o_i2l, o_l2i, x_fld, j_fget, x_idx, j_aget, x_len, j_alen, x_ofb, x_ite, xs_nil, xs_cons, x_callv, x_calls, s_callv, s_calls, j_recv, j_ret, j_retv, b_cmp, b_and, b_or, b_not, b_ofi, b_ite, b_true, s_skip, s_set, j_ty, j_lset, j_kill, s_inc, s_fput, j_fput, s_fop, s_aput, j_aput, j_nar, s_aop, s_ret, s_retv, s_go, s_pop, x_linc, x_finc, Value.category, if_icmp.holds, List.flatMap_cons, List.flatMap_nil, List.length_cons, List.length_append, List.length_nil, List.set_cons_succ, List.set_cons_zero, List.getElem?_cons_succ, List.getElem?_cons_zero, List.replicate, ite_and', ite_or', ite_int', nI_leI, nI_ltI, nI_eq, nI_add, nI_1, pk_mul, nI_clamp, n_in', nI_pos', nI_pos, n_m1e, n_01, n_10, sT_1, sR_1_0, sR_1_1, sR_1_2, sR_1_3, sR_1_4, sR_1_5, sR_1_6, sR_1_7, sR_1_8, sR_1_9, sT_2, sT_3, sT_4, sT_5, sT_6, sT_7, sT_8, sT_9, sT_10, sT_11, sT_12, sT_13, sT_14, sR_2_1, sR_2_2, sR_2_3, sR_2_4, sR_2_5, sR_2_6, sR_2_7, sR_2_8, sR_2_9, sR_2_10, sR_2_11, sR_2_12, sT_15, sT_16, sT_17, sT_18, sT_19, sT_20, sT_21, sT_22, sT_23, sR_15_1, sR_15_2, sR_15_3, sR_15_4, sR_15_5, sR_15_6, sR_15_7, sR_15_8, sT_24, sT_25, sT_26, sT_27, sT_28, sT_29, sR_24_1, sR_24_2, sR_24_3, sR_24_4, sR_24_5, sT_71, sT_72, sR_71_0, sR_71_1, sR_71_2, sR_71_3, sR_71_4, sT_73, sT_74, sT_75, sR_73_0, sR_73_1, sR_73_2, sR_73_3, sR_73_4, sR_73_5, sT_84, sT_85, sT_86, sT_87, sR_84_0, sR_84_1, sR_84_2, sR_84_3, sR_84_4, sR_84_5, sT_88, sT_89, sR_88_0, sT_90, sT_91, sR_90_0, e1, h10]
    rfl
  have a2 : ws_2 ([.ref 73, .int (nI k), .int (nI S), .int (nI s1), .int (nI s2), .int (nI s3), .null, .null, .null], h1) = some (.inl 0, ([.ref 73, .int (nI k), .int (nI S), .int (nI s1), .int (nI s2), .int (nI s3), .int (nI b), .null, .null], h1)) := by
    simp (disch := first | assumption | omega) [ws_2, j_meth, j_out, j_rok, j_pad, lg_sl, s_seq_w, isN_inl, isN_inr, s_if, jb, x_c, x_iloc, x_aloc, x_lloc, x_bin, x_un, o_add, o_sub, o_mul, o_and, o_or, o_xor, o_shl, o_shr, o_ushr, o_max, o_min, o_i2b, o_i2c, o_i2l, o_l2i, x_fld, j_fget, x_idx, j_aget, x_len, j_alen, x_ofb, x_ite, xs_nil, xs_cons, x_callv, x_calls, s_callv, s_calls, j_recv, j_ret, j_retv, b_cmp, b_and, b_or, b_not, b_ofi, b_ite, b_true, s_skip, s_set, j_ty, j_lset, j_kill, s_inc, s_fput, j_fput, s_fop, s_aput, j_aput, j_nar, s_aop, s_ret, s_retv, s_go, s_pop, x_linc, x_finc, Value.category, if_icmp.holds, List.flatMap_cons, List.flatMap_nil, List.length_cons, List.length_append, List.length_nil, List.set_cons_succ, List.set_cons_zero, List.getElem?_cons_succ, List.getElem?_cons_zero, List.replicate, ite_and', ite_or', ite_int', nI_leI, nI_ltI, nI_eq, nI_add, nI_1, pk_mul, nI_clamp, n_in', nI_pos', nI_pos, n_m1e, n_01, n_10, sT_1, sR_1_0, sR_1_1, sR_1_2, sR_1_3, sR_1_4, sR_1_5, sR_1_6, sR_1_7, sR_1_8, sR_1_9, sT_2, sT_3, sT_4, sT_5, sT_6, sT_7, sT_8, sT_9, sT_10, sT_11, sT_12, sT_13, sT_14, sR_2_1, sR_2_2, sR_2_3, sR_2_4, sR_2_5, sR_2_6, sR_2_7, sR_2_8, sR_2_9, sR_2_10, sR_2_11, sR_2_12, sT_15, sT_16, sT_17, sT_18, sT_19, sT_20, sT_21, sT_22, sT_23, sR_15_1, sR_15_2, sR_15_3, sR_15_4, sR_15_5, sR_15_6, sR_15_7, sR_15_8, sT_24, sT_25, sT_26, sT_27, sT_28, sT_29, sR_24_1, sR_24_2, sR_24_3, sR_24_4, sR_24_5, sT_71, sT_72, sR_71_0, sR_71_1, sR_71_2, sR_71_3, sR_71_4, sT_73, sT_74, sT_75, sR_73_0, sR_73_1, sR_73_2, sR_73_3, sR_73_4, sR_73_5, sT_84, sT_85, sT_86, sT_87, sR_84_0, sR_84_1, sR_84_2, sR_84_3, sR_84_4, sR_84_5, sT_88, sT_89, sR_88_0, sT_90, sT_91, sR_90_0, d74]
  have a3 : ws_3 ([.ref 73, .int (nI k), .int (nI S), .int (nI s1), .int (nI s2), .int (nI s3), .int (nI b), .null, .null], h1) = some (.inl 0, ([.ref 73, .int (nI k), .int (nI S), .int (nI s1), .int (nI s2), .int (nI s3), .int (nI b), .int (nI z3), .null], h1)) := by
    simp (disch := first | assumption | omega) [ws_3, j_meth, j_out, j_rok, j_pad, lg_sl, s_seq_w, isN_inl, isN_inr, s_if, jb, x_c, x_iloc, x_aloc, x_lloc, x_bin, x_un, o_add, o_sub, o_mul, o_and, o_or, o_xor, o_shl, o_shr, o_ushr, o_max, o_min, o_i2b, o_i2c, o_i2l, o_l2i, x_fld, j_fget, x_idx, j_aget, x_len, j_alen, x_ofb, x_ite, xs_nil, xs_cons, x_callv, x_calls, s_callv, s_calls, j_recv, j_ret, j_retv, b_cmp, b_and, b_or, b_not, b_ofi, b_ite, b_true, s_skip, s_set, j_ty, j_lset, j_kill, s_inc, s_fput, j_fput, s_fop, s_aput, j_aput, j_nar, s_aop, s_ret, s_retv, s_go, s_pop, x_linc, x_finc, Value.category, if_icmp.holds, List.flatMap_cons, List.flatMap_nil, List.length_cons, List.length_append, List.length_nil, List.set_cons_succ, List.set_cons_zero, List.getElem?_cons_succ, List.getElem?_cons_zero, List.replicate, ite_and', ite_or', ite_int', nI_leI, nI_ltI, nI_eq, nI_add, nI_1, pk_mul, nI_clamp, n_in', nI_pos', nI_pos, n_m1e, n_01, n_10, sT_1, sR_1_0, sR_1_1, sR_1_2, sR_1_3, sR_1_4, sR_1_5, sR_1_6, sR_1_7, sR_1_8, sR_1_9, sT_2, sT_3, sT_4, sT_5, sT_6, sT_7, sT_8, sT_9, sT_10, sT_11, sT_12, sT_13, sT_14, sR_2_1, sR_2_2, sR_2_3, sR_2_4, sR_2_5, sR_2_6, sR_2_7, sR_2_8, sR_2_9, sR_2_10, sR_2_11, sR_2_12, sT_15, sT_16, sT_17, sT_18, sT_19, sT_20, sT_21, sT_22, sT_23, sR_15_1, sR_15_2, sR_15_3, sR_15_4, sR_15_5, sR_15_6, sR_15_7, sR_15_8, sT_24, sT_25, sT_26, sT_27, sT_28, sT_29, sR_24_1, sR_24_2, sR_24_3, sR_24_4, sR_24_5, sT_71, sT_72, sR_71_0, sR_71_1, sR_71_2, sR_71_3, sR_71_4, sT_73, sT_74, sT_75, sR_73_0, sR_73_1, sR_73_2, sR_73_3, sR_73_4, sR_73_5, sT_84, sT_85, sT_86, sT_87, sR_84_0, sR_84_1, sR_84_2, sR_84_3, sR_84_4, sR_84_5, sT_88, sT_89, sR_88_0, sT_90, sT_91, sR_90_0, e3, hsh2]
  have a4 : ws_4 ([.ref 73, .int (nI k), .int (nI S), .int (nI s1), .int (nI s2), .int (nI s3), .int (nI b), .int (nI z3), .null], h1) = some (.inl 0, ([.ref 73, .int (nI k), .int (nI S), .int (nI s1), .int (nI s2), .int (nI s3), .int (nI b), .int (nI z3), .int (nI t1)], h1)) := by
    simp (disch := first | assumption | omega) [ws_4, j_meth, j_out, j_rok, j_pad, lg_sl, s_seq_w, isN_inl, isN_inr, s_if, jb, x_c, x_iloc, x_aloc, x_lloc, x_bin, x_un, o_add, o_sub, o_mul, o_and, o_or, o_xor, o_shl, o_shr, o_ushr, o_max, o_min, o_i2b, o_i2c, o_i2l, o_l2i, x_fld, j_fget, x_idx, j_aget, x_len, j_alen, x_ofb, x_ite, xs_nil, xs_cons, x_callv, x_calls, s_callv, s_calls, j_recv, j_ret, j_retv, b_cmp, b_and, b_or, b_not, b_ofi, b_ite, b_true, s_skip, s_set, j_ty, j_lset, j_kill, s_inc, s_fput, j_fput, s_fop, s_aput, j_aput, j_nar, s_aop, s_ret, s_retv, s_go, s_pop, x_linc, x_finc, Value.category, if_icmp.holds, List.flatMap_cons, List.flatMap_nil, List.length_cons, List.length_append, List.length_nil, List.set_cons_succ, List.set_cons_zero, List.getElem?_cons_succ, List.getElem?_cons_zero, List.replicate, ite_and', ite_or', ite_int', nI_leI, nI_ltI, nI_eq, nI_add, nI_1, pk_mul, nI_clamp, n_in', nI_pos', nI_pos, n_m1e, n_01, n_10, sT_1, sR_1_0, sR_1_1, sR_1_2, sR_1_3, sR_1_4, sR_1_5, sR_1_6, sR_1_7, sR_1_8, sR_1_9, sT_2, sT_3, sT_4, sT_5, sT_6, sT_7, sT_8, sT_9, sT_10, sT_11, sT_12, sT_13, sT_14, sR_2_1, sR_2_2, sR_2_3, sR_2_4, sR_2_5, sR_2_6, sR_2_7, sR_2_8, sR_2_9, sR_2_10, sR_2_11, sR_2_12, sT_15, sT_16, sT_17, sT_18, sT_19, sT_20, sT_21, sT_22, sT_23, sR_15_1, sR_15_2, sR_15_3, sR_15_4, sR_15_5, sR_15_6, sR_15_7, sR_15_8, sT_24, sT_25, sT_26, sT_27, sT_28, sT_29, sR_24_1, sR_24_2, sR_24_3, sR_24_4, sR_24_5, sT_71, sT_72, sR_71_0, sR_71_1, sR_71_2, sR_71_3, sR_71_4, sT_73, sT_74, sT_75, sR_73_0, sR_73_1, sR_73_2, sR_73_3, sR_73_4, sR_73_5, sT_84, sT_85, sT_86, sT_87, sR_84_0, sR_84_1, sR_84_2, sR_84_3, sR_84_4, sR_84_5, sT_88, sT_89, sR_88_0, sT_90, sT_91, sR_90_0, e8, hsh, hor]
  have a5 : ws_5 ([.ref 73, .int (nI k), .int (nI S), .int (nI s1), .int (nI s2), .int (nI s3), .int (nI b), .int (nI z3), .int (nI t1)], h1) = some (if (!pb && tg) then .inl 0 else .inr (some (.int 0)), ([.ref 73, .int (nI k), .int (nI S), .int (nI s1), .int (nI s2), .int (nI s3), .int (nI b), .int (nI z3), .int (nI t1)], h1)) := by
    cases pb with
    | true =>
      simp only [Bool.toNat_true, Nat.one_mul] at hand
      simp (disch := first | assumption | omega) [ws_5, j_meth, j_out, j_rok, j_pad, lg_sl, s_seq_w, isN_inl, isN_inr, s_if, jb, x_c, x_iloc, x_aloc, x_lloc, x_bin, x_un, o_add, o_sub, o_mul, o_and, o_or, o_xor, o_shl, o_shr, o_ushr, o_max, o_min, o_i2b, o_i2c, o_i2l, o_l2i, x_fld, j_fget, x_idx, j_aget, x_len, j_alen, x_ofb, x_ite, xs_nil, xs_cons, x_callv, x_calls, s_callv, s_calls, j_recv, j_ret, j_retv, b_cmp, b_and, b_or, b_not, b_ofi, b_ite, b_true, s_skip, s_set, j_ty, j_lset, j_kill, s_inc, s_fput, j_fput, s_fop, s_aput, j_aput, j_nar, s_aop, s_ret, s_retv, s_go, s_pop, x_linc, x_finc, Value.category, if_icmp.holds, List.flatMap_cons, List.flatMap_nil, List.length_cons, List.length_append, List.length_nil, List.set_cons_succ, List.set_cons_zero, List.getElem?_cons_succ, List.getElem?_cons_zero, List.replicate, ite_and', ite_or', ite_int', nI_leI, nI_ltI, nI_eq, nI_add, nI_1, pk_mul, nI_clamp, n_in', nI_pos', nI_pos, n_m1e, n_01, n_10, sT_1, sR_1_0, sR_1_1, sR_1_2, sR_1_3, sR_1_4, sR_1_5, sR_1_6, sR_1_7, sR_1_8, sR_1_9, sT_2, sT_3, sT_4, sT_5, sT_6, sT_7, sT_8, sT_9, sT_10, sT_11, sT_12, sT_13, sT_14, sR_2_1, sR_2_2, sR_2_3, sR_2_4, sR_2_5, sR_2_6, sR_2_7, sR_2_8, sR_2_9, sR_2_10, sR_2_11, sR_2_12, sT_15, sT_16, sT_17, sT_18, sT_19, sT_20, sT_21, sT_22, sT_23, sR_15_1, sR_15_2, sR_15_3, sR_15_4, sR_15_5, sR_15_6, sR_15_7, sR_15_8, sT_24, sT_25, sT_26, sT_27, sT_28, sT_29, sR_24_1, sR_24_2, sR_24_3, sR_24_4, sR_24_5, sT_71, sT_72, sR_71_0, sR_71_1, sR_71_2, sR_71_3, sR_71_4, sT_73, sT_74, sT_75, sR_73_0, sR_73_1, sR_73_2, sR_73_3, sR_73_4, sR_73_5, sT_84, sT_85, sT_86, sT_87, sR_84_0, sR_84_1, sR_84_2, sR_84_3, sR_84_4, sR_84_5, sT_88, sT_89, sR_88_0, sT_90, sT_91, sR_90_0, hand, hne]
      rfl
    | false =>
      simp only [Bool.toNat_false, Nat.zero_mul] at hand
      cases tg <;> simp (disch := first | assumption | omega) [ws_5, j_meth, j_out, j_rok, j_pad, lg_sl, s_seq_w, isN_inl, isN_inr, s_if, jb, x_c, x_iloc, x_aloc, x_lloc, x_bin, x_un, o_add, o_sub, o_mul, o_and, o_or, o_xor, o_shl, o_shr, o_ushr, o_max, o_min, o_i2b, o_i2c, o_i2l, o_l2i, x_fld, j_fget, x_idx, j_aget, x_len, j_alen, x_ofb, x_ite, xs_nil, xs_cons, x_callv, x_calls, s_callv, s_calls, j_recv, j_ret, j_retv, b_cmp, b_and, b_or, b_not, b_ofi, b_ite, b_true, s_skip, s_set, j_ty, j_lset, j_kill, s_inc, s_fput, j_fput, s_fop, s_aput, j_aput, j_nar, s_aop, s_ret, s_retv, s_go, s_pop, x_linc, x_finc, Value.category, if_icmp.holds, List.flatMap_cons, List.flatMap_nil, List.length_cons, List.length_append, List.length_nil, List.set_cons_succ, List.set_cons_zero, List.getElem?_cons_succ, List.getElem?_cons_zero, List.replicate, ite_and', ite_or', ite_int', nI_leI, nI_ltI, nI_eq, nI_add, nI_1, pk_mul, nI_clamp, n_in', nI_pos', nI_pos, n_m1e, n_01, n_10, sT_1, sR_1_0, sR_1_1, sR_1_2, sR_1_3, sR_1_4, sR_1_5, sR_1_6, sR_1_7, sR_1_8, sR_1_9, sT_2, sT_3, sT_4, sT_5, sT_6, sT_7, sT_8, sT_9, sT_10, sT_11, sT_12, sT_13, sT_14, sR_2_1, sR_2_2, sR_2_3, sR_2_4, sR_2_5, sR_2_6, sR_2_7, sR_2_8, sR_2_9, sR_2_10, sR_2_11, sR_2_12, sT_15, sT_16, sT_17, sT_18, sT_19, sT_20, sT_21, sT_22, sT_23, sR_15_1, sR_15_2, sR_15_3, sR_15_4, sR_15_5, sR_15_6, sR_15_7, sR_15_8, sT_24, sT_25, sT_26, sT_27, sT_28, sT_29, sR_24_1, sR_24_2, sR_24_3, sR_24_4, sR_24_5, sT_71, sT_72, sR_71_0, sR_71_1, sR_71_2, sR_71_3, sR_71_4, sT_73, sT_74, sT_75, sR_73_0, sR_73_1, sR_73_2, sR_73_3, sR_73_4, sR_73_5, sT_84, sT_85, sT_86, sT_87, sR_84_0, sR_84_1, sR_84_2, sR_84_3, sR_84_4, sR_84_5, sT_88, sT_89, sR_88_0, sT_90, sT_91, sR_90_0, hand, h00, h10, e4, eg]
  refine ⟨fun hc => ?_, fun hc hw => ?_, fun hc hw => ⟨hok hw, fun c' h2 e2 => ?_⟩⟩
  · subst hc
    simp only [if_true] at a1
    simp (disch := first | assumption | omega) [j_meth, j_out, j_rok, j_pad, lg_sl, s_seq_w, isN_inl, isN_inr, s_if, jb, x_c, x_iloc, x_aloc, x_lloc, x_bin, x_un, o_add, o_sub, o_mul, o_and, o_or, o_xor, o_shl, o_shr, o_ushr, o_max, o_min, o_i2b, o_i2c, o_i2l, o_l2i, x_fld, j_fget, x_idx, j_aget, x_len, j_alen, x_ofb, x_ite, xs_nil, xs_cons, x_callv, x_calls, s_callv, s_calls, j_recv, j_ret, j_retv, b_cmp, b_and, b_or, b_not, b_ofi, b_ite, b_true, s_skip, s_set, j_ty, j_lset, j_kill, s_inc, s_fput, j_fput, s_fop, s_aput, j_aput, j_nar, s_aop, s_ret, s_retv, s_go, s_pop, x_linc, x_finc, Value.category, if_icmp.holds, List.flatMap_cons, List.flatMap_nil, List.length_cons, List.length_append, List.length_nil, List.set_cons_succ, List.set_cons_zero, List.getElem?_cons_succ, List.getElem?_cons_zero, List.replicate, a0, a1]
  · subst hc
    simp only [Bool.false_eq_true, if_false] at a1
    rw [hw] at a5
    simp only [Bool.false_eq_true, if_false] at a5
    simp (disch := first | assumption | omega) [j_meth, j_out, j_rok, j_pad, lg_sl, s_seq_w, isN_inl, isN_inr, s_if, jb, x_c, x_iloc, x_aloc, x_lloc, x_bin, x_un, o_add, o_sub, o_mul, o_and, o_or, o_xor, o_shl, o_shr, o_ushr, o_max, o_min, o_i2b, o_i2c, o_i2l, o_l2i, x_fld, j_fget, x_idx, j_aget, x_len, j_alen, x_ofb, x_ite, xs_nil, xs_cons, x_callv, x_calls, s_callv, s_calls, j_recv, j_ret, j_retv, b_cmp, b_and, b_or, b_not, b_ofi, b_ite, b_true, s_skip, s_set, j_ty, j_lset, j_kill, s_inc, s_fput, j_fput, s_fop, s_aput, j_aput, j_nar, s_aop, s_ret, s_retv, s_go, s_pop, x_linc, x_finc, Value.category, if_icmp.holds, List.flatMap_cons, List.flatMap_nil, List.length_cons, List.length_append, List.length_nil, List.set_cons_succ, List.set_cons_zero, List.getElem?_cons_succ, List.getElem?_cons_zero, List.replicate, a0, a1, a2, a3, a4, a5]
  · subst hc
    have hx := hxor hw
    simp only [Bool.false_eq_true, if_false] at a1
    rw [hw] at a5
    simp only [if_true] at a5
    have a6 : ws_6 rec ([.ref 73, .int (nI k), .int (nI S), .int (nI s1), .int (nI s2), .int (nI s3), .int (nI b), .int (nI z3), .int (nI t1)], h1) = some (.inr (some (.int (if c' then 1 else 0))), ([.ref 73, .int (nI k), .int (nI S), .int (nI s1), .int (nI s2), .int (nI s3), .int (nI b), .int (nI z3), .int (nI t1)], h2)) := by
      cases c' <;> simp (disch := first | assumption | omega) [ws_6, j_meth, j_out, j_rok, j_pad, lg_sl, s_seq_w, isN_inl, isN_inr, s_if, jb, x_c, x_iloc, x_aloc, x_lloc, x_bin, x_un, o_add, o_sub, o_mul, o_and, o_or, o_xor, o_shl, o_shr, o_ushr, o_max, o_min, o_i2b, o_i2c, o_i2l, o_l2i, x_fld, j_fget, x_idx, j_aget, x_len, j_alen, x_ofb, x_ite, xs_nil, xs_cons, x_callv, x_calls, s_callv, s_calls, j_recv, j_ret, j_retv, b_cmp, b_and, b_or, b_not, b_ofi, b_ite, b_true, s_skip, s_set, j_ty, j_lset, j_kill, s_inc, s_fput, j_fput, s_fop, s_aput, j_aput, j_nar, s_aop, s_ret, s_retv, s_go, s_pop, x_linc, x_finc, Value.category, if_icmp.holds, List.flatMap_cons, List.flatMap_nil, List.length_cons, List.length_append, List.length_nil, List.set_cons_succ, List.set_cons_zero, List.getElem?_cons_succ, List.getElem?_cons_zero, List.replicate, ite_and', ite_or', ite_int', nI_leI, nI_ltI, nI_eq, nI_add, nI_1, pk_mul, nI_clamp, n_in', nI_pos', nI_pos, n_m1e, n_01, n_10, sT_1, sR_1_0, sR_1_1, sR_1_2, sR_1_3, sR_1_4, sR_1_5, sR_1_6, sR_1_7, sR_1_8, sR_1_9, sT_2, sT_3, sT_4, sT_5, sT_6, sT_7, sT_8, sT_9, sT_10, sT_11, sT_12, sT_13, sT_14, sR_2_1, sR_2_2, sR_2_3, sR_2_4, sR_2_5, sR_2_6, sR_2_7, sR_2_8, sR_2_9, sR_2_10, sR_2_11, sR_2_12, sT_15, sT_16, sT_17, sT_18, sT_19, sT_20, sT_21, sT_22, sT_23, sR_15_1, sR_15_2, sR_15_3, sR_15_4, sR_15_5, sR_15_6, sR_15_7, sR_15_8, sT_24, sT_25, sT_26, sT_27, sT_28, sT_29, sR_24_1, sR_24_2, sR_24_3, sR_24_4, sR_24_5, sT_71, sT_72, sR_71_0, sR_71_1, sR_71_2, sR_71_3, sR_71_4, sT_73, sT_74, sT_75, sR_73_0, sR_73_1, sR_73_2, sR_73_3, sR_73_4, sR_73_5, sT_84, sT_85, sT_86, sT_87, sR_84_0, sR_84_1, sR_84_2, sR_84_3, sR_84_4, sR_84_5, sT_88, sT_89, sR_88_0, sT_90, sT_91, sR_90_0, d75, hsh3, hor2, hor3, hx, e2]
    cases c' <;> simp (disch := first | assumption | omega) [j_meth, j_out, j_rok, j_pad, lg_sl, s_seq_w, isN_inl, isN_inr, s_if, jb, x_c, x_iloc, x_aloc, x_lloc, x_bin, x_un, o_add, o_sub, o_mul, o_and, o_or, o_xor, o_shl, o_shr, o_ushr, o_max, o_min, o_i2b, o_i2c, o_i2l, o_l2i, x_fld, j_fget, x_idx, j_aget, x_len, j_alen, x_ofb, x_ite, xs_nil, xs_cons, x_callv, x_calls, s_callv, s_calls, j_recv, j_ret, j_retv, b_cmp, b_and, b_or, b_not, b_ofi, b_ite, b_true, s_skip, s_set, j_ty, j_lset, j_kill, s_inc, s_fput, j_fput, s_fop, s_aput, j_aput, j_nar, s_aop, s_ret, s_retv, s_go, s_pop, x_linc, x_finc, Value.category, if_icmp.holds, List.flatMap_cons, List.flatMap_nil, List.length_cons, List.length_append, List.length_nil, List.set_cons_succ, List.set_cons_zero, List.getElem?_cons_succ, List.getElem?_cons_zero, List.replicate, a0, a1, a2, a3, a4, a5, a6]
/-- THE WALK: it arrives at each set of wk, in that order, until one is enough -/
theorem e_W_step {A : AS} {mv : Nat → Nat} {σ : Type} (ar : Nat → σ → Bool × σ) (Inv : σ → jHp → Prop) (hinv : ∀ s h, Inv s h → MV A mv h ∧ WLv A h)
    {W : List Nat} {s0 : σ} (har : ∀ pre S post s h, W = pre ++ S :: post → vst ar pre s0 = (false, s) → okS A S → Inv s h → ∃ h', f_W_arrive [.ref 73, .int (nI S), .int (nI (slM A S)), .int (nI (slM A (sWt A S)))] h = some (some (.int (if (ar S s).1 then 1 else 0)), h') ∧ Inv (ar S s).2 h') :
    ∀ (l : List Nat) (n k S : Nat) (s : σ) (h : jHp) (pre post : List Nat), W = pre ++ wk A mv l S ++ post → vst ar pre s0 = (false, s) → l.length < n → (lvL A (aNb A)).drop k = l → k ≤ (lvL A (aNb A)).length → okS A S → Inv s h →
    ∃ h', f_W_step n [.ref 73, .int (nI k), .int (nI S), .int (nI (slM A S)), .int (nI (slM A (sWt A S))), .int (nI (sPpl A S))] h = some (some (.int (if (vst ar (wk A mv l S) s).1 then 1 else 0)), h') ∧ Inv (vst ar (wk A mv l S) s).2 h' := by
  intro l
  induction l with
  | nil =>
    intro n k S s h pre post hW hp hn hd hk oS i0
    obtain ⟨m, rfl⟩ : ∃ m, n = m + 1 := ⟨n - 1, by omega⟩
    obtain ⟨x, hl⟩ := hinv s h i0
    obtain ⟨h', ea, i1⟩ := har pre S post s h (by rw [hW, List.append_assoc]; rfl) hp oS i0
    have hkl : k = (lvL A (aNb A)).length := by
      have := List.drop_eq_nil_iff.mp hd
      omega
    subst hkl
    have hv : vst ar (wk A mv [] S) s = ar S s := by
      simp only [wk, vst]
      cases hz : (ar S s).1 with
      | true => rfl
      | false => simp only [Bool.false_eq_true, if_false]; rw [← hz]
    rw [hv]
    exact ⟨h', W_step_end x hl ea _, i1⟩
  | cons b l ih =>
    intro n k S s h pre post hW hp hn hd hk oS i0
    obtain ⟨m, rfl⟩ : ∃ m, n = m + 1 := ⟨n - 1, by omega⟩
    simp only [List.length_cons] at hn
    obtain ⟨x, hl⟩ := hinv s h i0
    have w := x.1.1.2.1
    have hk' : k < (lvL A (aNb A)).length := by
      apply Classical.byContradiction
      intro z
      rw [List.drop_eq_nil_iff.mpr (by omega)] at hd
      cases hd
    have hd2 := List.drop_eq_getElem_cons hk'
    rw [hd] at hd2
    injection hd2 with hb hl2
    have hkb : (lvL A (aNb A)).getD k 0 = b := by
      rw [List.getD_eq_getElem?_getD, List.getElem?_eq_getElem hk', hb]
      rfl
    obtain ⟨h1, e1, i1⟩ := ih m (k + 1) S s h pre ((if wkO A mv S b then wk A mv l (S ||| 2 ^ b) else []) ++ post) (by rw [hW]; simp only [wk, List.append_assoc]) hp (by omega) hl2.symm hk' oS i0
    obtain ⟨x1, hl1⟩ := hinv _ h1 i1
    obtain ⟨g1, g2, g3⟩ := W_step_go (mv := mv) w hk' hkb oS x.1.1.1 hl x1 hl1 e1
    have hv : vst ar (wk A mv (b :: l) S) s = if (vst ar (wk A mv l S) s).1 then vst ar (wk A mv l S) s else vst ar (if wkO A mv S b then wk A mv l (S ||| 2 ^ b) else []) (vst ar (wk A mv l S) s).2 := vst_app ar _ _ s
    generalize vst ar (wk A mv (b :: l) S) s = V at *
    cases hc : (vst ar (wk A mv l S) s).1 with
    | true =>
      rw [if_pos hc] at hv
      subst hv
      rw [hc]
      exact ⟨h1, g1 hc, i1⟩
    | false =>
      rw [if_neg (by rw [hc]; decide)] at hv
      cases hw : wkO A mv S b with
      | false =>
        rw [if_neg (by rw [hw]; decide)] at hv
        subst hv
        exact ⟨h1, g2 hc hw, i1⟩
      | true =>
        rw [if_pos hw] at hv
        subst hv
        obtain ⟨oT, g3⟩ := g3 hc hw
        obtain ⟨h2, e2, i2⟩ := ih m (k + 1) (S ||| 2 ^ b) _ h1 (pre ++ wk A mv l S) post (by rw [hW]; simp only [wk, List.append_assoc]; rw [if_pos hw]) (by rw [vst_app, hp]; simp only [Bool.false_eq_true, if_false]; rw [← hc]) (by omega) hl2.symm hk' oT i1
        exact ⟨h2, g3 _ h2 e2, i2⟩
theorem slM_0 (A : AS) : slM A 0 = 0 := by
  apply Nat.eq_of_testBit_eq
  intro j
  rw [Nat.zero_testBit]
  cases q : (slM A 0).testBit j with
  | false => rfl
  | true =>
    unfold slM at q
    obtain ⟨b, -, h, -⟩ := (slM_bit A 0 _ j).mp q
    rw [Nat.zero_testBit] at h; cases h
theorem ppl_0 (A : AS) : sPpl A 0 = 0 := by
  apply Nat.eq_of_testBit_eq
  intro j
  rw [Nat.zero_testBit]
  cases q : (sPpl A 0).testBit j with
  | false => rfl
  | true =>
    unfold sPpl at q
    obtain ⟨b, -, h, -⟩ := (ppl_bit A 0 _ j).mp q
    rw [Nat.zero_testBit] at h; cases h
/-- from the start -/
theorem e_W_walk {A : AS} {mv : Nat → Nat} {σ : Type} (ar : Nat → σ → Bool × σ) (Inv : σ → jHp → Prop) (hinv : ∀ s h, Inv s h → MV A mv h ∧ WLv A h) {s : σ}
    (har : ∀ pre S post s' h, wk A mv (lvL A (aNb A)) 0 = pre ++ S :: post → vst ar pre s = (false, s') → okS A S → Inv s' h → ∃ h', f_W_arrive [.ref 73, .int (nI S), .int (nI (slM A S)), .int (nI (slM A (sWt A S)))] h = some (some (.int (if (ar S s').1 then 1 else 0)), h') ∧ Inv (ar S s').2 h') {h : jHp} (i : Inv s h) :
    ∃ h', f_W_step 30 [.ref 73, .int (nI 0), .int (nI 0), .int (nI 0), .int (nI (slM A (sWt A 0))), .int (nI 0)] h = some (some (.int (if (vst ar (wk A mv (lvL A (aNb A)) 0) s).1 then 1 else 0)), h') ∧ Inv (vst ar (wk A mv (lvL A (aNb A)) 0) s).2 h' := by
  have w := (hinv s h i).1.1.1.2.1
  have h20 := w.2.2.1.1
  have hl := lvL_len A (aNb A)
  have := e_W_step ar Inv hinv (W := wk A mv (lvL A (aNb A)) 0) (s0 := s) har (lvL A (aNb A)) 30 0 0 s h [] [] (by simp) rfl (by omega) rfl (Nat.zero_le _) (okS_0 A) i
  rw [slM_0, ppl_0] at this
  exact this
