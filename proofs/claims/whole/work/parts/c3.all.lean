/-! ALL, once known -/
theorem RC_90 {A : AS} {tx : List Nat} {rw rw' : List Int32} {h h' : jHp} (r : RC A tx rw h) (f : Fr W90 h h') (c : CRw rw' h') : RC A tx rw' h' ∧ FC h h' := by
  obtain ⟨ca, bl, d, sp⟩ := r.2.1
  exact RC_mk r d sp f (fun a j q => W90_ok q) (DK_90 d f) c
/-- what of it is read -/
def KF (A : AS) (fa fl : Nat) (h : jHp) : Prop := (hR h 77 6 = fa ∧ hT h fa = (1, fl) ∧ fa ≠ 0 ∧ isG fa) ∧ hI h 77 7 = nI (sAllR A).length ∧ (sAllR A).length ≤ fl ∧ fl ≤ 524288 ∧ ∀ i, i < (sAllR A).length → hI h fa i = nI ((sAllR A).getD i 0)
theorem KNW_KF {A : AS} {h : jHp} (k : KNW A h) : ∃ fa fl, KF A fa fl h := by
  obtain ⟨fa, fl, sl, ra, rl, so, di, qu, co, g, k4, c⟩ := k
  rcases c with c | ⟨-, -, c2, c3, c4, -⟩
  · rw [k4] at c; cases c
  · obtain ⟨⟨g1, g2, g3, g4, -⟩, ⟨i1, -⟩, -, -, ⟨i, hi, hfl⟩, -⟩ := g
    have hb : (64 * 2 ^ i) ≤ 64 * 2 ^ 8 := Nat.mul_le_mul_left _ (Nat.pow_le_pow_right (by decide) hi)
    exact ⟨fa, fl, ⟨g3, g2, by unfold isG at i1; omega, i1⟩, c2, c3, by omega, c4⟩
theorem KF_fr {A : AS} {fa fl : Nat} {W : Nat → Nat → Prop} {h h' : jHp} (k : KF A fa fl h) (f : Fr W h h') (hW : ∀ a j, W a j → ¬ isG a ∧ a ≠ 77) : KF A fa fl h' := by
  obtain ⟨⟨k1, k2, k3, k4⟩, k5, k6, k7, k8⟩ := k
  exact ⟨⟨by rw [f.1.2.1]; exact k1, by rw [f.1.1]; exact k2, k3, k4⟩, by rw [Fr_I f fun q => (hW _ _ q).2 rfl]; exact k5, k6, k7, fun i hi => by rw [Fr_I f fun q => (hW _ _ q).1 k4]; exact k8 i hi⟩
theorem KF_90 {A : AS} {fa fl : Nat} {h h' : jHp} (k : KF A fa fl h) (f : Fr W90 h h') : KF A fa fl h' := KF_fr k f fun a j q => ⟨(okW_ne (W90_ok q)).1, (okW_ne (W90_ok q)).2.1⟩
theorem o_S_all {A : AS} {tx : List Nat} {rw : List Int32} {h : jHp} (r : RC A tx rw h) : ∃ h', f_S_all [.ref 1] h = some (some (.int (nI (sAllR A).length)), h') ∧ RC A tx ((sAllR A).take 40 |>.map nI) h' ∧ FC h h' := by
  have hs := r.1.1.1
  have w := r.1.1.2.1
  have hlen := sAllR_len w
  obtain ⟨h1, e1, r1, fc1, kn1⟩ := e_St_know r
  obtain ⟨fa, fl, kf1⟩ := KNW_KF kn1
  have hs1 := r1.1.1.1
  obtain ⟨h2, e2, f2, c2⟩ := e_R_empty hs1
  have hs2 := Fr_shape hs1 f2
  generalize hM : min (sAllR A).length 40 = M
  have hM1 : M ≤ (sAllR A).length := by omega
  have hM2 : M ≤ 40 := by omega
  have hL := loop_wp (lb := 1) (lc := 2) (c := lc_S_all_1) (b := lb_S_all_1) (u := lu_S_all_1) M
    (fun i st => ∃ h', st = ([.ref 1, .int (nI i)], h') ∧ Fr W90 h1 h' ∧ CRw ((sAllR A).take i |>.map nI) h')
    (fun r => ∃ h', r = (.inl 0, ([.ref 1, .int (nI M)], h')) ∧ Fr W90 h1 h' ∧ CRw ((sAllR A).take M |>.map nI) h')
    ?_ ?_ ([.ref 1, .int (nI 0)], h2) ⟨h2, rfl, f2, by simpa using c2⟩
  · obtain ⟨q, e3, h3, rfl, f3, c3⟩ := hL
    have hs3 := Fr_shape hs1 f3
    have kf3 := KF_90 kf1 f3
    have c3' : CRw ((sAllR A).take 40 |>.map nI) h3 := by
      have : (sAllR A).take M = (sAllR A).take 40 := by
        rw [← hM, Nat.min_comm, ← List.take_take, List.take_length]
      rw [← this]; exact c3
    have fin := RC_90 r1 f3 c3'
    refine ⟨h3, ?_, fin.1, FC_trans fc1 fin.2⟩
    have k7 := kf3.2.1
    have t3 := sT_77 hs3
    generalize (sAllR A).length = LL at *
    simp only [nI_0] at e3
    clear kf3 kf1 fin c3 c3' f3 kn1
    simp (disch := first | assumption | omega) [f_S_all, body_S_all, j_meth, j_out, j_rok, j_pad, lg_sl, s_seq_w, isN_inl, isN_inr, s_if, jb, x_c, x_iloc, x_aloc, x_lloc, x_bin, x_un, o_add, o_sub, o_mul, o_and, o_or, o_xor, o_shl, o_shr, o_ushr, o_max, o_min, o_i2b, o_i2c, o_i2l, o_l2i, x_fld, j_fget, x_idx, j_aget, x_len, j_alen, x_ofb, x_ite, xs_nil, xs_cons, x_callv, x_calls, s_callv, s_calls, j_recv, j_ret, j_retv, b_cmp, b_and, b_or, b_not, b_ofi, b_ite, b_true, s_skip, s_set, j_ty, j_lset, j_kill, s_inc, s_fput, j_fput, s_fop, s_aput, j_aput, j_nar, s_aop, s_ret, s_retv, s_go, s_pop, x_linc, x_finc, Value.category, if_icmp.holds, List.flatMap_cons, List.flatMap_nil, List.length_cons, List.length_append, List.length_nil, List.set_cons_succ, List.set_cons_zero, List.getElem?_cons_succ, List.getElem?_cons_zero, List.replicate, ite_and', ite_or', ite_int', nI_leI, nI_ltI, nI_eq, nI_add, nI_1, pk_mul, nI_clamp, n_in', nI_pos', nI_pos, n_m1e, n_01, n_10, sT_1, sR_1_0, sR_1_1, sR_1_2, sR_1_3, sR_1_4, sR_1_5, sR_1_6, sR_1_7, sR_1_8, sR_1_9, sT_2, sT_3, sT_4, sT_5, sT_6, sT_7, sT_8, sT_9, sT_10, sT_11, sT_12, sT_13, sT_14, sR_2_1, sR_2_2, sR_2_3, sR_2_4, sR_2_5, sR_2_6, sR_2_7, sR_2_8, sR_2_9, sR_2_10, sR_2_11, sR_2_12, sT_15, sT_16, sT_17, sT_18, sT_19, sT_20, sT_21, sT_22, sT_23, sR_15_1, sR_15_2, sR_15_3, sR_15_4, sR_15_5, sR_15_6, sR_15_7, sR_15_8, sT_24, sT_25, sT_26, sT_27, sT_28, sT_29, sR_24_1, sR_24_2, sR_24_3, sR_24_4, sR_24_5, sT_71, sT_72, sR_71_0, sR_71_1, sR_71_2, sR_71_3, sR_71_4, sT_73, sT_74, sT_75, sR_73_0, sR_73_1, sR_73_2, sR_73_3, sR_73_4, sR_73_5, sT_84, sT_85, sT_86, sT_87, sR_84_0, sR_84_1, sR_84_2, sR_84_3, sR_84_4, sR_84_5, sT_88, sT_89, sR_88_0, sT_90, sT_91, sR_90_0, e1, sT_77, e2, nI_0, e3, t3, k7]
  · rintro i st hi ⟨h3, rfl, f3, c3⟩
    left
    have hs3 := Fr_shape hs1 f3
    have kf3 := KF_90 kf1 f3
    have hlt : ((sAllR A).take i |>.map nI).length < 40 := by simp; omega
    obtain ⟨h4, e4, f4, c4⟩ := e_R_add hs3 c3 hlt (nI ((sAllR A).getD i 0))
    refine ⟨_, ?_, h4, rfl, Fr_trans f3 f4, by rw [take_succ_map (by omega)]; exact c4⟩
    have hs4 := Fr_shape hs3 f4
    obtain ⟨⟨k1, k2, k3, -⟩, k5, k6, k7, k8⟩ := kf3
    have g8 := k8 i (by omega)
    clear k8
    have t3 := sT_77 hs3
    have hi1 : i < (sAllR A).length := by omega
    have hi2 : i < 40 := by omega
    have hin : j_in (nI i) fl = true := n_in' (by omega) (by omega)
    generalize (sAllR A).getD i 0 = V at *
    clear c3 c4 f3 f4 kf1 kn1 hlt
    generalize (sAllR A).length = LL at *
    simp (disch := first | assumption | omega) [lstp, lc_S_all_1, lb_S_all_1, lu_S_all_1, j_meth, j_out, j_rok, j_pad, lg_sl, s_seq_w, isN_inl, isN_inr, s_if, jb, x_c, x_iloc, x_aloc, x_lloc, x_bin, x_un, o_add, o_sub, o_mul, o_and, o_or, o_xor, o_shl, o_shr, o_ushr, o_max, o_min, o_i2b, o_i2c, o_i2l, o_l2i, x_fld, j_fget, x_idx, j_aget, x_len, j_alen, x_ofb, x_ite, xs_nil, xs_cons, x_callv, x_calls, s_callv, s_calls, j_recv, j_ret, j_retv, b_cmp, b_and, b_or, b_not, b_ofi, b_ite, b_true, s_skip, s_set, j_ty, j_lset, j_kill, s_inc, s_fput, j_fput, s_fop, s_aput, j_aput, j_nar, s_aop, s_ret, s_retv, s_go, s_pop, x_linc, x_finc, Value.category, if_icmp.holds, List.flatMap_cons, List.flatMap_nil, List.length_cons, List.length_append, List.length_nil, List.set_cons_succ, List.set_cons_zero, List.getElem?_cons_succ, List.getElem?_cons_zero, List.replicate, ite_and', ite_or', ite_int', nI_leI, nI_ltI, nI_eq, nI_add, nI_1, pk_mul, nI_clamp, n_in', nI_pos', nI_pos, n_m1e, n_01, n_10, sT_1, sR_1_0, sR_1_1, sR_1_2, sR_1_3, sR_1_4, sR_1_5, sR_1_6, sR_1_7, sR_1_8, sR_1_9, sT_2, sT_3, sT_4, sT_5, sT_6, sT_7, sT_8, sT_9, sT_10, sT_11, sT_12, sT_13, sT_14, sR_2_1, sR_2_2, sR_2_3, sR_2_4, sR_2_5, sR_2_6, sR_2_7, sR_2_8, sR_2_9, sR_2_10, sR_2_11, sR_2_12, sT_15, sT_16, sT_17, sT_18, sT_19, sT_20, sT_21, sT_22, sT_23, sR_15_1, sR_15_2, sR_15_3, sR_15_4, sR_15_5, sR_15_6, sR_15_7, sR_15_8, sT_24, sT_25, sT_26, sT_27, sT_28, sT_29, sR_24_1, sR_24_2, sR_24_3, sR_24_4, sR_24_5, sT_71, sT_72, sR_71_0, sR_71_1, sR_71_2, sR_71_3, sR_71_4, sT_73, sT_74, sT_75, sR_73_0, sR_73_1, sR_73_2, sR_73_3, sR_73_4, sR_73_5, sT_84, sT_85, sT_86, sT_87, sR_84_0, sR_84_1, sR_84_2, sR_84_3, sR_84_4, sR_84_5, sT_88, sT_89, sR_88_0, sT_90, sT_91, sR_90_0, t3, k5, hi1, hi2, k1, k2, k3, hin, g8, e4]
  · rintro st ⟨h3, rfl, f3, c3⟩
    refine ⟨_, ?_, h3, rfl, f3, c3⟩
    have hs3 := Fr_shape hs1 f3
    have kf3 := KF_90 kf1 f3
    have k7 := kf3.2.1
    have t3 := sT_77 hs3
    clear kf3 kf1 c3 f3 kn1
    generalize (sAllR A).length = LL at *
    by_cases q : M < LL
    · have : M = 40 := by omega
      subst this
      simp (disch := first | assumption | omega) [lstp, lc_S_all_1, lb_S_all_1, lu_S_all_1, j_meth, j_out, j_rok, j_pad, lg_sl, s_seq_w, isN_inl, isN_inr, s_if, jb, x_c, x_iloc, x_aloc, x_lloc, x_bin, x_un, o_add, o_sub, o_mul, o_and, o_or, o_xor, o_shl, o_shr, o_ushr, o_max, o_min, o_i2b, o_i2c, o_i2l, o_l2i, x_fld, j_fget, x_idx, j_aget, x_len, j_alen, x_ofb, x_ite, xs_nil, xs_cons, x_callv, x_calls, s_callv, s_calls, j_recv, j_ret, j_retv, b_cmp, b_and, b_or, b_not, b_ofi, b_ite, b_true, s_skip, s_set, j_ty, j_lset, j_kill, s_inc, s_fput, j_fput, s_fop, s_aput, j_aput, j_nar, s_aop, s_ret, s_retv, s_go, s_pop, x_linc, x_finc, Value.category, if_icmp.holds, List.flatMap_cons, List.flatMap_nil, List.length_cons, List.length_append, List.length_nil, List.set_cons_succ, List.set_cons_zero, List.getElem?_cons_succ, List.getElem?_cons_zero, List.replicate, ite_and', ite_or', ite_int', nI_leI, nI_ltI, nI_eq, nI_add, nI_1, pk_mul, nI_clamp, n_in', nI_pos', nI_pos, n_m1e, n_01, n_10, sT_1, sR_1_0, sR_1_1, sR_1_2, sR_1_3, sR_1_4, sR_1_5, sR_1_6, sR_1_7, sR_1_8, sR_1_9, sT_2, sT_3, sT_4, sT_5, sT_6, sT_7, sT_8, sT_9, sT_10, sT_11, sT_12, sT_13, sT_14, sR_2_1, sR_2_2, sR_2_3, sR_2_4, sR_2_5, sR_2_6, sR_2_7, sR_2_8, sR_2_9, sR_2_10, sR_2_11, sR_2_12, sT_15, sT_16, sT_17, sT_18, sT_19, sT_20, sT_21, sT_22, sT_23, sR_15_1, sR_15_2, sR_15_3, sR_15_4, sR_15_5, sR_15_6, sR_15_7, sR_15_8, sT_24, sT_25, sT_26, sT_27, sT_28, sT_29, sR_24_1, sR_24_2, sR_24_3, sR_24_4, sR_24_5, sT_71, sT_72, sR_71_0, sR_71_1, sR_71_2, sR_71_3, sR_71_4, sT_73, sT_74, sT_75, sR_73_0, sR_73_1, sR_73_2, sR_73_3, sR_73_4, sR_73_5, sT_84, sT_85, sT_86, sT_87, sR_84_0, sR_84_1, sR_84_2, sR_84_3, sR_84_4, sR_84_5, sT_88, sT_89, sR_88_0, sT_90, sT_91, sR_90_0, t3, k7, q]
    · have hlt : (M < LL) = False := eq_false q
      simp (disch := first | assumption | omega) [lstp, lc_S_all_1, lb_S_all_1, lu_S_all_1, j_meth, j_out, j_rok, j_pad, lg_sl, s_seq_w, isN_inl, isN_inr, s_if, jb, x_c, x_iloc, x_aloc, x_lloc, x_bin, x_un, o_add, o_sub, o_mul, o_and, o_or, o_xor, o_shl, o_shr, o_ushr, o_max, o_min, o_i2b, o_i2c, o_i2l, o_l2i, x_fld, j_fget, x_idx, j_aget, x_len, j_alen, x_ofb, x_ite, xs_nil, xs_cons, x_callv, x_calls, s_callv, s_calls, j_recv, j_ret, j_retv, b_cmp, b_and, b_or, b_not, b_ofi, b_ite, b_true, s_skip, s_set, j_ty, j_lset, j_kill, s_inc, s_fput, j_fput, s_fop, s_aput, j_aput, j_nar, s_aop, s_ret, s_retv, s_go, s_pop, x_linc, x_finc, Value.category, if_icmp.holds, List.flatMap_cons, List.flatMap_nil, List.length_cons, List.length_append, List.length_nil, List.set_cons_succ, List.set_cons_zero, List.getElem?_cons_succ, List.getElem?_cons_zero, List.replicate, ite_and', ite_or', ite_int', nI_leI, nI_ltI, nI_eq, nI_add, nI_1, pk_mul, nI_clamp, n_in', nI_pos', nI_pos, n_m1e, n_01, n_10, sT_1, sR_1_0, sR_1_1, sR_1_2, sR_1_3, sR_1_4, sR_1_5, sR_1_6, sR_1_7, sR_1_8, sR_1_9, sT_2, sT_3, sT_4, sT_5, sT_6, sT_7, sT_8, sT_9, sT_10, sT_11, sT_12, sT_13, sT_14, sR_2_1, sR_2_2, sR_2_3, sR_2_4, sR_2_5, sR_2_6, sR_2_7, sR_2_8, sR_2_9, sR_2_10, sR_2_11, sR_2_12, sT_15, sT_16, sT_17, sT_18, sT_19, sT_20, sT_21, sT_22, sT_23, sR_15_1, sR_15_2, sR_15_3, sR_15_4, sR_15_5, sR_15_6, sR_15_7, sR_15_8, sT_24, sT_25, sT_26, sT_27, sT_28, sT_29, sR_24_1, sR_24_2, sR_24_3, sR_24_4, sR_24_5, sT_71, sT_72, sR_71_0, sR_71_1, sR_71_2, sR_71_3, sR_71_4, sT_73, sT_74, sT_75, sR_73_0, sR_73_1, sR_73_2, sR_73_3, sR_73_4, sR_73_5, sT_84, sT_85, sT_86, sT_87, sR_84_0, sR_84_1, sR_84_2, sR_84_3, sR_84_4, sR_84_5, sT_88, sT_89, sR_88_0, sT_90, sT_91, sR_90_0, t3, k7, hlt]
