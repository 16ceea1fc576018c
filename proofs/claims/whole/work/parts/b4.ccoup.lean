/-! couple -/
theorem cpl_coup {A : AS} {a b p : Nat} (ha : sCpl A a = none) (hb : sCpl A b = none) : sCpl (aCoup A a b) p = if p = a ∨ p = b then some (aNc A) else sCpl A p := by
  have h : sCpl (aCoup A a b) p = fst1 (fun c => updN (aC1 A) (aNc A) a c == p || updN (aC2 A) (aNc A) b c == p) (aNc A + 1) := rfl
  have hlt : ∀ c, c < aNc A → (updN (aC1 A) (aNc A) a c == p || updN (aC2 A) (aNc A) b c == p) = (aC1 A c == p || aC2 A c == p) := fun c hc => by
    rw [updN_ne _ _ (by omega), updN_ne _ _ (by omega)]
  rw [h]
  by_cases e : p = a ∨ p = b
  · rw [if_pos e]
    refine fst1_of (by omega) (by rw [updN_eq, updN_eq]; rcases e with q | q <;> simp [q]) fun c hc => ?_
    rw [hlt c hc]
    have hn : sCpl A p = none := by rcases e with q | q <;> rw [q] <;> assumption
    exact fst1_none hn c hc
  · rw [if_neg e]
    rw [fst1_ext (n := aNc A) (m := aNc A + 1) (by omega) fun i h1 h2 => by
      have : i = aNc A := by omega
      rw [this, updN_eq, updN_eq]
      have e1 : ¬ a = p := fun z => e (Or.inl z.symm)
      have e2 : ¬ b = p := fun z => e (Or.inr z.symm)
      simp [e1, e2]]
    exact fst1_congr hlt
theorem ag_coup (A : AS) (a b f : Nat) : TkAg A (aCoup A a b) f := ⟨Nat.le_refl _, Nat.le_refl _, fun b _ => ⟨rfl, rfl, rfl, rfl, rfl⟩, fun b h1 h2 => absurd h2 (Nat.not_lt.mpr h1), fun p _ => rfl, rfl⟩
theorem o_S_couple {A : AS} {tx : List Nat} {rw : List Int32} {h : jHp} (r : RC A tx rw h) (x y : Int32) : ∃ h', f_S_couple [.ref 1, .int x, .int y] h = some (some (.int (vCouple A x y).1), h') ∧ RC (vCouple A x y).2 tx rw h' ∧ FC h h' := by
  have r0 := r
  obtain ⟨mk, ⟨ca, bl, d, sp⟩, c11, ct, cr, cs⟩ := r
  have hs := mk.1.1
  have w := mk.1.2.1
  have cb := mk.1.2.2.1
  have cp := mk.1.2.2.2
  have cc := mk.2
  have hn := w.1.1
  have hc2 := w.2.2.2.2.1.1
  have s77 := sT_77 hs
  have c24 := cc.1
  have ex := e_P_isSingle hs w cp x
  have ey := e_P_isSingle hs w cp y
  have h10 : ((1 : Int32) = 0) = False := by decide
  unfold vCouple
  by_cases hx : j_in x (aNp A) = true ∧ sCpl A x.toNatClampNeg = none
  case neg =>
    rw [if_neg hx] at ex
    rw [if_neg (fun q => hx ⟨q.1, q.2.2.2.1⟩)]
    refine ⟨h, ?_, r0, FC_refl h⟩
    simp (disch := first | assumption | omega) [f_S_couple, body_S_couple, j_meth, j_out, j_rok, j_pad, lg_sl, s_seq_w, isN_inl, isN_inr, s_if, jb, x_c, x_iloc, x_aloc, x_lloc, x_bin, x_un, o_add, o_sub, o_mul, o_and, o_or, o_xor, o_shl, o_shr, o_ushr, o_max, o_min, o_i2b, o_i2c, o_i2l, o_l2i, x_fld, j_fget, x_idx, j_aget, x_len, j_alen, x_ofb, x_ite, xs_nil, xs_cons, x_callv, x_calls, s_callv, s_calls, j_recv, j_ret, j_retv, b_cmp, b_and, b_or, b_not, b_ofi, b_ite, b_true, s_skip, s_set, j_ty, j_lset, j_kill, s_inc, s_fput, j_fput, s_fop, s_aput, j_aput, j_nar, s_aop, s_ret, s_retv, s_go, s_pop, x_linc, x_finc, Value.category, if_icmp.holds, List.flatMap_cons, List.flatMap_nil, List.length_cons, List.length_append, List.length_nil, List.set_cons_succ, List.set_cons_zero, List.getElem?_cons_succ, List.getElem?_cons_zero, List.replicate, ite_and', ite_or', ite_int', nI_leI, nI_ltI, nI_eq, nI_add, nI_1, pk_mul, nI_clamp, n_in', nI_pos', nI_pos, n_m1e, n_01, n_10, sT_1, sR_1_0, sR_1_1, sR_1_2, sR_1_3, sR_1_4, sR_1_5, sR_1_6, sR_1_7, sR_1_8, sR_1_9, sT_2, sT_3, sT_4, sT_5, sT_6, sT_7, sT_8, sT_9, sT_10, sT_11, sT_12, sT_13, sT_14, sR_2_1, sR_2_2, sR_2_3, sR_2_4, sR_2_5, sR_2_6, sR_2_7, sR_2_8, sR_2_9, sR_2_10, sR_2_11, sR_2_12, sT_15, sT_16, sT_17, sT_18, sT_19, sT_20, sT_21, sT_22, sT_23, sR_15_1, sR_15_2, sR_15_3, sR_15_4, sR_15_5, sR_15_6, sR_15_7, sR_15_8, sT_24, sT_25, sT_26, sT_27, sT_28, sT_29, sR_24_1, sR_24_2, sR_24_3, sR_24_4, sR_24_5, sT_71, sT_72, sR_71_0, sR_71_1, sR_71_2, sR_71_3, sR_71_4, sT_73, sT_74, sT_75, sR_73_0, sR_73_1, sR_73_2, sR_73_3, sR_73_4, sR_73_5, sT_84, sT_85, sT_86, sT_87, sR_84_0, sR_84_1, sR_84_2, sR_84_3, sR_84_4, sR_84_5, sT_88, sT_89, sR_88_0, sT_90, sT_91, sR_90_0, ex]
  rw [if_pos hx] at ex
  by_cases hy : j_in y (aNp A) = true ∧ sCpl A y.toNatClampNeg = none
  case neg =>
    rw [if_neg hy] at ey
    rw [if_neg (fun q => hy ⟨q.2.1, q.2.2.2.2.1⟩)]
    refine ⟨h, ?_, r0, FC_refl h⟩
    simp (disch := first | assumption | omega) [f_S_couple, body_S_couple, j_meth, j_out, j_rok, j_pad, lg_sl, s_seq_w, isN_inl, isN_inr, s_if, jb, x_c, x_iloc, x_aloc, x_lloc, x_bin, x_un, o_add, o_sub, o_mul, o_and, o_or, o_xor, o_shl, o_shr, o_ushr, o_max, o_min, o_i2b, o_i2c, o_i2l, o_l2i, x_fld, j_fget, x_idx, j_aget, x_len, j_alen, x_ofb, x_ite, xs_nil, xs_cons, x_callv, x_calls, s_callv, s_calls, j_recv, j_ret, j_retv, b_cmp, b_and, b_or, b_not, b_ofi, b_ite, b_true, s_skip, s_set, j_ty, j_lset, j_kill, s_inc, s_fput, j_fput, s_fop, s_aput, j_aput, j_nar, s_aop, s_ret, s_retv, s_go, s_pop, x_linc, x_finc, Value.category, if_icmp.holds, List.flatMap_cons, List.flatMap_nil, List.length_cons, List.length_append, List.length_nil, List.set_cons_succ, List.set_cons_zero, List.getElem?_cons_succ, List.getElem?_cons_zero, List.replicate, ite_and', ite_or', ite_int', nI_leI, nI_ltI, nI_eq, nI_add, nI_1, pk_mul, nI_clamp, n_in', nI_pos', nI_pos, n_m1e, n_01, n_10, sT_1, sR_1_0, sR_1_1, sR_1_2, sR_1_3, sR_1_4, sR_1_5, sR_1_6, sR_1_7, sR_1_8, sR_1_9, sT_2, sT_3, sT_4, sT_5, sT_6, sT_7, sT_8, sT_9, sT_10, sT_11, sT_12, sT_13, sT_14, sR_2_1, sR_2_2, sR_2_3, sR_2_4, sR_2_5, sR_2_6, sR_2_7, sR_2_8, sR_2_9, sR_2_10, sR_2_11, sR_2_12, sT_15, sT_16, sT_17, sT_18, sT_19, sT_20, sT_21, sT_22, sT_23, sR_15_1, sR_15_2, sR_15_3, sR_15_4, sR_15_5, sR_15_6, sR_15_7, sR_15_8, sT_24, sT_25, sT_26, sT_27, sT_28, sT_29, sR_24_1, sR_24_2, sR_24_3, sR_24_4, sR_24_5, sT_71, sT_72, sR_71_0, sR_71_1, sR_71_2, sR_71_3, sR_71_4, sT_73, sT_74, sT_75, sR_73_0, sR_73_1, sR_73_2, sR_73_3, sR_73_4, sR_73_5, sT_84, sT_85, sT_86, sT_87, sR_84_0, sR_84_1, sR_84_2, sR_84_3, sR_84_4, sR_84_5, sT_88, sT_89, sR_88_0, sT_90, sT_91, sR_90_0, ex, h10, ey]
  rw [if_pos hy] at ey
  by_cases hxy : x = y
  · rw [if_neg (fun q => q.2.2.1 hxy)]
    refine ⟨h, ?_, r0, FC_refl h⟩
    subst hxy
    simp (disch := first | assumption | omega) [f_S_couple, body_S_couple, j_meth, j_out, j_rok, j_pad, lg_sl, s_seq_w, isN_inl, isN_inr, s_if, jb, x_c, x_iloc, x_aloc, x_lloc, x_bin, x_un, o_add, o_sub, o_mul, o_and, o_or, o_xor, o_shl, o_shr, o_ushr, o_max, o_min, o_i2b, o_i2c, o_i2l, o_l2i, x_fld, j_fget, x_idx, j_aget, x_len, j_alen, x_ofb, x_ite, xs_nil, xs_cons, x_callv, x_calls, s_callv, s_calls, j_recv, j_ret, j_retv, b_cmp, b_and, b_or, b_not, b_ofi, b_ite, b_true, s_skip, s_set, j_ty, j_lset, j_kill, s_inc, s_fput, j_fput, s_fop, s_aput, j_aput, j_nar, s_aop, s_ret, s_retv, s_go, s_pop, x_linc, x_finc, Value.category, if_icmp.holds, List.flatMap_cons, List.flatMap_nil, List.length_cons, List.length_append, List.length_nil, List.set_cons_succ, List.set_cons_zero, List.getElem?_cons_succ, List.getElem?_cons_zero, List.replicate, ite_and', ite_or', ite_int', nI_leI, nI_ltI, nI_eq, nI_add, nI_1, pk_mul, nI_clamp, n_in', nI_pos', nI_pos, n_m1e, n_01, n_10, sT_1, sR_1_0, sR_1_1, sR_1_2, sR_1_3, sR_1_4, sR_1_5, sR_1_6, sR_1_7, sR_1_8, sR_1_9, sT_2, sT_3, sT_4, sT_5, sT_6, sT_7, sT_8, sT_9, sT_10, sT_11, sT_12, sT_13, sT_14, sR_2_1, sR_2_2, sR_2_3, sR_2_4, sR_2_5, sR_2_6, sR_2_7, sR_2_8, sR_2_9, sR_2_10, sR_2_11, sR_2_12, sT_15, sT_16, sT_17, sT_18, sT_19, sT_20, sT_21, sT_22, sT_23, sR_15_1, sR_15_2, sR_15_3, sR_15_4, sR_15_5, sR_15_6, sR_15_7, sR_15_8, sT_24, sT_25, sT_26, sT_27, sT_28, sT_29, sR_24_1, sR_24_2, sR_24_3, sR_24_4, sR_24_5, sT_71, sT_72, sR_71_0, sR_71_1, sR_71_2, sR_71_3, sR_71_4, sT_73, sT_74, sT_75, sR_73_0, sR_73_1, sR_73_2, sR_73_3, sR_73_4, sR_73_5, sT_84, sT_85, sT_86, sT_87, sR_84_0, sR_84_1, sR_84_2, sR_84_3, sR_84_4, sR_84_5, sT_88, sT_89, sR_88_0, sT_90, sT_91, sR_90_0, ex, h10]
  by_cases hc : aNc A = 2
  · rw [if_neg (fun q => q.2.2.2.2.2 hc)]
    refine ⟨h, ?_, r0, FC_refl h⟩
    rw [hc] at c24
    simp (disch := first | assumption | omega) [f_S_couple, body_S_couple, j_meth, j_out, j_rok, j_pad, lg_sl, s_seq_w, isN_inl, isN_inr, s_if, jb, x_c, x_iloc, x_aloc, x_lloc, x_bin, x_un, o_add, o_sub, o_mul, o_and, o_or, o_xor, o_shl, o_shr, o_ushr, o_max, o_min, o_i2b, o_i2c, o_i2l, o_l2i, x_fld, j_fget, x_idx, j_aget, x_len, j_alen, x_ofb, x_ite, xs_nil, xs_cons, x_callv, x_calls, s_callv, s_calls, j_recv, j_ret, j_retv, b_cmp, b_and, b_or, b_not, b_ofi, b_ite, b_true, s_skip, s_set, j_ty, j_lset, j_kill, s_inc, s_fput, j_fput, s_fop, s_aput, j_aput, j_nar, s_aop, s_ret, s_retv, s_go, s_pop, x_linc, x_finc, Value.category, if_icmp.holds, List.flatMap_cons, List.flatMap_nil, List.length_cons, List.length_append, List.length_nil, List.set_cons_succ, List.set_cons_zero, List.getElem?_cons_succ, List.getElem?_cons_zero, List.replicate, ite_and', ite_or', ite_int', nI_leI, nI_ltI, nI_eq, nI_add, nI_1, pk_mul, nI_clamp, n_in', nI_pos', nI_pos, n_m1e, n_01, n_10, sT_1, sR_1_0, sR_1_1, sR_1_2, sR_1_3, sR_1_4, sR_1_5, sR_1_6, sR_1_7, sR_1_8, sR_1_9, sT_2, sT_3, sT_4, sT_5, sT_6, sT_7, sT_8, sT_9, sT_10, sT_11, sT_12, sT_13, sT_14, sR_2_1, sR_2_2, sR_2_3, sR_2_4, sR_2_5, sR_2_6, sR_2_7, sR_2_8, sR_2_9, sR_2_10, sR_2_11, sR_2_12, sT_15, sT_16, sT_17, sT_18, sT_19, sT_20, sT_21, sT_22, sT_23, sR_15_1, sR_15_2, sR_15_3, sR_15_4, sR_15_5, sR_15_6, sR_15_7, sR_15_8, sT_24, sT_25, sT_26, sT_27, sT_28, sT_29, sR_24_1, sR_24_2, sR_24_3, sR_24_4, sR_24_5, sT_71, sT_72, sR_71_0, sR_71_1, sR_71_2, sR_71_3, sR_71_4, sT_73, sT_74, sT_75, sR_73_0, sR_73_1, sR_73_2, sR_73_3, sR_73_4, sR_73_5, sT_84, sT_85, sT_86, sT_87, sR_84_0, sR_84_1, sR_84_2, sR_84_3, sR_84_4, sR_84_5, sT_88, sT_89, sR_88_0, sT_90, sT_91, sR_90_0, ex, ey, h10, hxy, c24]
  rw [if_pos ⟨hx.1, hy.1, hxy, hx.2, hy.2, hc⟩]
  obtain ⟨hx1, hx2⟩ := hx
  obtain ⟨hy1, hy2⟩ := hy
  obtain ⟨a, ha, rfl⟩ := j_in_ex hx1 (by omega)
  obtain ⟨b, hb, rfl⟩ := j_in_ex hy1 (by omega)
  rw [nI_clamp (by omega)] at hx2 hy2 ⊢
  rw [nI_clamp (by omega)]
  have hab : a ≠ b := fun e => hxy (by rw [e])
  have habn : (nI a = nI b) = False := eq_false hxy
  have z2 : ¬ 2 ≤ aNc A := by omega
  have wB : WF (aCoup A a b) := WF_coup w ha hb hab hx2 hy2 hc
  have hz : (nI 0 = (0 : Int32)) = True := by rw [nI_0]; simp
  have hsu : nI (aNc A + 1) - nI 1 = nI (aNc A) := by rw [pk_sub (by omega)]; rfl
  have hfin : ∃ h', f_S_couple [.ref 1, .int (nI a), .int (nI b)] h = some (some (.int (nI (aNc A))), h') ∧ Fr (fun a j => okM a j) h h' ∧ ∀ i j, hI h' i j = if i = 24 ∧ j = 0 then nI (aNc A + 1) else if i = 26 ∧ j = aNc A then nI b else if i = 25 ∧ j = aNc A then nI a else if i = 18 ∧ j = b then nI (aNc A) else if i = 18 ∧ j = a then nI (aNc A) else if i = 77 ∧ j = 4 then nI 0 else hI h i j := by
    refine ⟨hSetI (hSetI (hSetI (hSetI (hSetI (hSetI h 77 4 (nI 0)) 18 a (nI (aNc A))) 18 b (nI (aNc A))) 25 (aNc A) (nI a)) 26 (aNc A) (nI b)) 24 0 (nI (aNc A + 1)), ?_, Fr_trans (Fr_trans (Fr_trans (Fr_trans (Fr_trans (Fr_set _ (Or.inr (Or.inl ⟨rfl, rfl⟩))) (Fr_set _ (Or.inl (by omega)))) (Fr_set _ (Or.inl (by omega)))) (Fr_set _ (Or.inl (by omega)))) (Fr_set _ (Or.inl (by omega)))) (Fr_set _ (Or.inl (by omega))), fun a j => by rw [hI_setI, hI_setI, hI_setI, hI_setI, hI_setI, hI_setI]⟩
    have hs1 : Shape (hSetI h 77 4 (nI 0)) := hs
    have hs2 : Shape (hSetI (hSetI h 77 4 (nI 0)) 18 a (nI (aNc A))) := hs
    have hs3 : Shape (hSetI (hSetI (hSetI h 77 4 (nI 0)) 18 a (nI (aNc A))) 18 b (nI (aNc A))) := hs
    have hs4 : Shape (hSetI (hSetI (hSetI (hSetI h 77 4 (nI 0)) 18 a (nI (aNc A))) 18 b (nI (aNc A))) 25 (aNc A) (nI a)) := hs
    have hs5 : Shape (hSetI (hSetI (hSetI (hSetI (hSetI h 77 4 (nI 0)) 18 a (nI (aNc A))) 18 b (nI (aNc A))) 25 (aNc A) (nI a)) 26 (aNc A) (nI b)) := hs
    have hs6 : Shape (hSetI (hSetI (hSetI (hSetI (hSetI (hSetI h 77 4 (nI 0)) 18 a (nI (aNc A))) 18 b (nI (aNc A))) 25 (aNc A) (nI a)) 26 (aNc A) (nI b)) 24 0 (nI (aNc A + 1))) := hs
    have a1 : hI (hSetI h 77 4 (nI 0)) 24 0 = nI (aNc A) := by rw [hI_setI, if_neg (by omega)]; exact c24
    have a2 : hI (hSetI (hSetI h 77 4 (nI 0)) 18 a (nI (aNc A))) 24 0 = nI (aNc A) := by rw [hI_setI, if_neg (by omega)]; exact a1
    have a3 : hI (hSetI (hSetI (hSetI h 77 4 (nI 0)) 18 a (nI (aNc A))) 18 b (nI (aNc A))) 24 0 = nI (aNc A) := by rw [hI_setI, if_neg (by omega)]; exact a2
    have a4 : hI (hSetI (hSetI (hSetI (hSetI h 77 4 (nI 0)) 18 a (nI (aNc A))) 18 b (nI (aNc A))) 25 (aNc A) (nI a)) 24 0 = nI (aNc A) := by rw [hI_setI, if_neg (by omega)]; exact a3
    have a5 : hI (hSetI (hSetI (hSetI (hSetI (hSetI h 77 4 (nI 0)) 18 a (nI (aNc A))) 18 b (nI (aNc A))) 25 (aNc A) (nI a)) 26 (aNc A) (nI b)) 24 0 = nI (aNc A) := by rw [hI_setI, if_neg (by omega)]; exact a4
    have a6 : hI (hSetI (hSetI (hSetI (hSetI (hSetI (hSetI h 77 4 (nI 0)) 18 a (nI (aNc A))) 18 b (nI (aNc A))) 25 (aNc A) (nI a)) 26 (aNc A) (nI b)) 24 0 (nI (aNc A + 1))) 24 0 = nI (aNc A + 1) := by rw [hI_setI, if_pos ⟨rfl, rfl⟩]
    clear d wB r0 mk cs cp cb cc
    generalize h6e : hSetI (hSetI (hSetI (hSetI (hSetI (hSetI h 77 4 (nI 0)) 18 a (nI (aNc A))) 18 b (nI (aNc A))) 25 (aNc A) (nI a)) 26 (aNc A) (nI b)) 24 0 (nI (aNc A + 1)) = h6 at *
    generalize h5e : hSetI (hSetI (hSetI (hSetI (hSetI h 77 4 (nI 0)) 18 a (nI (aNc A))) 18 b (nI (aNc A))) 25 (aNc A) (nI a)) 26 (aNc A) (nI b) = h5 at *
    generalize h4e : hSetI (hSetI (hSetI (hSetI h 77 4 (nI 0)) 18 a (nI (aNc A))) 18 b (nI (aNc A))) 25 (aNc A) (nI a) = h4 at *
    generalize h3e : hSetI (hSetI (hSetI h 77 4 (nI 0)) 18 a (nI (aNc A))) 18 b (nI (aNc A)) = h3 at *
    generalize h2e : hSetI (hSetI h 77 4 (nI 0)) 18 a (nI (aNc A)) = h2 at *
    generalize h1e : hSetI h 77 4 (nI 0) = h1 at *
    simp (disch := first | assumption | omega) [f_S_couple, body_S_couple, j_meth, j_out, j_rok, j_pad, lg_sl, s_seq_w, isN_inl, isN_inr, s_if, jb, x_c, x_iloc, x_aloc, x_lloc, x_bin, x_un, o_add, o_sub, o_mul, o_and, o_or, o_xor, o_shl, o_shr, o_ushr, o_max, o_min, o_i2b, o_i2c, o_i2l, o_l2i, x_fld, j_fget, x_idx, j_aget, x_len, j_alen, x_ofb, x_ite, xs_nil, xs_cons, x_callv, x_calls, s_callv, s_calls, j_recv, j_ret, j_retv, b_cmp, b_and, b_or, b_not, b_ofi, b_ite, b_true, s_skip, s_set, j_ty, j_lset, j_kill, s_inc, s_fput, j_fput, s_fop, s_aput, j_aput, j_nar, s_aop, s_ret, s_retv, s_go, s_pop, x_linc, x_finc, Value.category, if_icmp.holds, List.flatMap_cons, List.flatMap_nil, List.length_cons, List.length_append, List.length_nil, List.set_cons_succ, List.set_cons_zero, List.getElem?_cons_succ, List.getElem?_cons_zero, List.replicate, ite_and', ite_or', ite_int', nI_leI, nI_ltI, nI_eq, nI_add, nI_1, pk_mul, nI_clamp, n_in', nI_pos', nI_pos, n_m1e, n_01, n_10, sT_1, sR_1_0, sR_1_1, sR_1_2, sR_1_3, sR_1_4, sR_1_5, sR_1_6, sR_1_7, sR_1_8, sR_1_9, sT_2, sT_3, sT_4, sT_5, sT_6, sT_7, sT_8, sT_9, sT_10, sT_11, sT_12, sT_13, sT_14, sR_2_1, sR_2_2, sR_2_3, sR_2_4, sR_2_5, sR_2_6, sR_2_7, sR_2_8, sR_2_9, sR_2_10, sR_2_11, sR_2_12, sT_15, sT_16, sT_17, sT_18, sT_19, sT_20, sT_21, sT_22, sT_23, sR_15_1, sR_15_2, sR_15_3, sR_15_4, sR_15_5, sR_15_6, sR_15_7, sR_15_8, sT_24, sT_25, sT_26, sT_27, sT_28, sT_29, sR_24_1, sR_24_2, sR_24_3, sR_24_4, sR_24_5, sT_71, sT_72, sR_71_0, sR_71_1, sR_71_2, sR_71_3, sR_71_4, sT_73, sT_74, sT_75, sR_73_0, sR_73_1, sR_73_2, sR_73_3, sR_73_4, sR_73_5, sT_84, sT_85, sT_86, sT_87, sR_84_0, sR_84_1, sR_84_2, sR_84_3, sR_84_4, sR_84_5, sT_88, sT_89, sR_88_0, sT_90, sT_91, sR_90_0, f_Co_join, body_Co_join, ex, ey, h10, habn, c24, z2, s77, hz, h1e, a1, h2e, a2, h3e, a3, h4e, a4, h5e, a5, h6e, a6, hsu]
  obtain ⟨h', ee, f1, g⟩ := hfin
  refine ⟨h', ee, RC_new (B := aCoup A a b) r0 sp f1 (fun a j q => Or.inl q) wB ?_ ?_ ?_ (DK_ag w wB (fun f _ => ag_coup A _ _ f) (DK_fr' d f1 fun a j q => q)) ?_ ?_⟩
  · exact CB_eq2 (A := A) cb fun a j h1 h2 => by
      rw [g, if_neg (by omega), if_neg (by omega), if_neg (by omega), if_neg (by omega), if_neg (by omega), if_neg (by omega)]
  · obtain ⟨p1, p2, p3, p4, p5, p6⟩ := cp
    have ge : ∀ i j, 15 ≤ i → i ≤ 23 → i ≠ 18 → hI h' i j = hI h i j := fun i j h1 h2 h3 => by
      rw [g, if_neg (by omega), if_neg (by omega), if_neg (by omega), if_neg (by omega), if_neg (by omega), if_neg (by omega)]
    refine ⟨by rw [ge 15 0 (by omega) (by omega) (by omega)]; exact p1, fun q hq => by rw [ge 16 q (by omega) (by omega) (by omega)]; exact p2 q hq, fun q hq => by rw [ge 17 q (by omega) (by omega) (by omega)]; exact p3 q hq, fun q hq => ?_, fun c hc => by rw [ge 22 c (by omega) (by omega) (by omega)]; exact p5 c hc, fun c k hc hk => by rw [ge 23 c (by omega) (by omega) (by omega)]; exact p6 c k hc hk⟩
    rw [ge 20 q (by omega) (by omega) (by omega), ge 21 q (by omega) (by omega) (by omega)]
    refine ⟨?_, (p4 q hq).2.1, (p4 q hq).2.2.1, fun k hk => by rw [ge 19 _ (by omega) (by omega) (by omega)]; exact (p4 q hq).2.2.2 k hk⟩
    rw [cpl_coup hx2 hy2, g, if_neg (by omega), if_neg (by omega), if_neg (by omega)]
    by_cases e1 : q = b
    · rw [if_pos ⟨rfl, e1⟩, if_pos (Or.inr e1), oI_s]
    · rw [if_neg (fun z => e1 z.2)]
      by_cases e2 : q = a
      · rw [if_pos ⟨rfl, e2⟩, if_pos (Or.inl e2), oI_s]
      · rw [if_neg (fun z => e2 z.2), if_neg (by omega), if_neg (fun z => z.elim e2 e1)]
        exact (p4 q hq).1
  · obtain ⟨q1, q2, q3⟩ := cc
    have ge : ∀ i j, 27 ≤ i → i ≤ 29 → hI h' i j = hI h i j := fun i j h1 h2 => by
      rw [g, if_neg (by omega), if_neg (by omega), if_neg (by omega), if_neg (by omega), if_neg (by omega), if_neg (by omega)]
    refine ⟨by rw [g, if_pos ⟨rfl, rfl⟩]; rfl, fun c hc => ?_, fun c hc => ?_⟩
    · have hc' : c < aNc A + 1 := hc
      show hI h' 25 c = nI (updN (aC1 A) (aNc A) a c) ∧ hI h' 26 c = nI (updN (aC2 A) (aNc A) b c)
      by_cases e : c = aNc A
      · rw [e, updN_eq, updN_eq]
        exact ⟨by rw [g, if_neg (by omega), if_neg (by omega), if_pos ⟨rfl, rfl⟩], by rw [g, if_neg (by omega), if_pos ⟨rfl, rfl⟩]⟩
      · rw [updN_ne _ _ e, updN_ne _ _ e]
        exact ⟨by rw [g, if_neg (by omega), if_neg (by omega), if_neg (by omega), if_neg (by omega), if_neg (by omega), if_neg (by omega)]; exact (q2 c (by omega)).1, by rw [g, if_neg (by omega), if_neg (by omega), if_neg (by omega), if_neg (by omega), if_neg (by omega), if_neg (by omega)]; exact (q2 c (by omega)).2⟩
    · rw [ge 27 c (by omega) (by omega)]
      refine ⟨(q3 c hc).1, fun k hk => ?_⟩
      rw [ge 28 _ (by omega) (by omega), ge 29 _ (by omega) (by omega)]
      exact (q3 c hc).2 k hk
  · rw [g, if_neg (by omega), if_neg (by omega), if_neg (by omega), if_neg (by omega), if_neg (by omega), if_neg (by omega)]
    exact c11
  · rw [g, if_neg (by omega), if_neg (by omega), if_neg (by omega), if_neg (by omega), if_neg (by omega), if_pos ⟨rfl, rfl⟩]
    exact nI_0
