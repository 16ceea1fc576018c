theorem gnc_s_ok {A : AS} {h : jHp} (mk : MK A h) (ro : RO A (lL A) h) {x y : Int32} {q : Option Nat × Option Nat} (hg : goneA x y A = some q) (v3 v4 : Int32) : ∃ h' L, gnc_s ([.ref 1, .int x, .int y, .int v3, .int v4, .null, .null], h) = some (.inl 0, ([.ref 1, .int x, .int y, .int v3, .int v4, .null, .null], h')) ∧ Fr W856 h h' ∧ RO A L h' ∧ LK A L ∧ oIni A none q.1 q.2 = (0, 0, 0, 0, L) := by
  have hs := mk.1.1
  have w := mk.1.2.1
  have hn := w.1.1
  have h20 := w.2.2.1.1
  unfold goneA at hg
  by_cases z1 : x = nI 0 ∧ j_in y (aNp A) = true
  · rw [if_pos z1] at hg
    simp only [Option.some.injEq] at hg
    subst hg
    obtain ⟨n, hnn, rfl⟩ := j_in_ex z1.2 (by omega)
    rw [nI_clamp (by omega)]
    obtain ⟨h1, e1, f1, r1⟩ := e_O_silence hs ro (q := n) (by omega)
    have hs1 := Fr_shape hs f1
    refine ⟨h1, _, ?_, f1, r1, LK_si (lL_ok w) n, ?_⟩
    · rw [z1.1]
      simp (disch := first | assumption | omega) [gnc_s, j_meth, j_out, j_rok, j_pad, lg_sl, s_seq_w, isN_inl, isN_inr, s_if, jb, x_c, x_iloc, x_aloc, x_lloc, x_bin, x_un, o_add, o_sub, o_mul, o_and, o_or, o_xor, o_shl, o_shr, o_ushr, o_max, o_min, o_i2b, o_i2c, o_i2l, o_l2i, x_fld, j_fget, x_idx, j_aget, x_len, j_alen, x_ofb, x_ite, xs_nil, xs_cons, x_callv, x_calls, s_callv, s_calls, j_recv, j_ret, j_retv, b_cmp, b_and, b_or, b_not, b_ofi, b_ite, b_true, s_skip, s_set, j_ty, j_lset, j_kill, s_inc, s_fput, j_fput, s_fop, s_aput, j_aput, j_nar, s_aop, s_ret, s_retv, s_go, s_pop, x_linc, x_finc, Value.category, if_icmp.holds, List.flatMap_cons, List.flatMap_nil, List.length_cons, List.length_append, List.length_nil, List.set_cons_succ, List.set_cons_zero, List.getElem?_cons_succ, List.getElem?_cons_zero, List.replicate, ite_and', ite_or', ite_int', nI_leI, nI_ltI, nI_eq, nI_add, nI_1, pk_mul, nI_clamp, n_in', nI_pos', nI_pos, n_m1e, n_01, n_10, sT_1, sR_1_0, sR_1_1, sR_1_2, sR_1_3, sR_1_4, sR_1_5, sR_1_6, sR_1_7, sR_1_8, sR_1_9, sT_2, sT_3, sT_4, sT_5, sT_6, sT_7, sT_8, sT_9, sT_10, sT_11, sT_12, sT_13, sT_14, sR_2_1, sR_2_2, sR_2_3, sR_2_4, sR_2_5, sR_2_6, sR_2_7, sR_2_8, sR_2_9, sR_2_10, sR_2_11, sR_2_12, sT_15, sT_16, sT_17, sT_18, sT_19, sT_20, sT_21, sT_22, sT_23, sR_15_1, sR_15_2, sR_15_3, sR_15_4, sR_15_5, sR_15_6, sR_15_7, sR_15_8, sT_24, sT_25, sT_26, sT_27, sT_28, sT_29, sR_24_1, sR_24_2, sR_24_3, sR_24_4, sR_24_5, sT_71, sT_72, sR_71_0, sR_71_1, sR_71_2, sR_71_3, sR_71_4, sT_73, sT_74, sT_75, sR_73_0, sR_73_1, sR_73_2, sR_73_3, sR_73_4, sR_73_5, sT_84, sT_85, sT_86, sT_87, sR_84_0, sR_84_1, sR_84_2, sR_84_3, sR_84_4, sR_84_5, sT_88, sT_89, sR_88_0, sT_90, sT_91, sR_90_0, nI_0, e1]
    · unfold oIni
      have : (fun p => oRem A none (some n) none p 0) = fun p => if p = n then [] else lL A p := funext fun p => rem_si A n p
      simp only [this]
  · rw [if_neg z1] at hg
    by_cases z2 : x = nI 1 ∧ j_in y (aNb A) = true
    · rw [if_pos z2] at hg
      simp only [Option.some.injEq] at hg
      subst hg
      obtain ⟨b, hb, rfl⟩ := j_in_ex z2.2 (by omega)
      rw [nI_clamp (by omega)]
      obtain ⟨h1, e1, f1, r1⟩ := e_O_withdraw mk (lL_ok w) ro hb
      have hs1 := Fr_shape hs f1
      have n10 : (nI 1 = (0 : Int32)) = False := by decide
      refine ⟨h1, _, ?_, f1, r1, LK_mi (lL_ok w) b, ?_⟩
      · rw [z2.1]
        simp (disch := first | assumption | omega) [gnc_s, j_meth, j_out, j_rok, j_pad, lg_sl, s_seq_w, isN_inl, isN_inr, s_if, jb, x_c, x_iloc, x_aloc, x_lloc, x_bin, x_un, o_add, o_sub, o_mul, o_and, o_or, o_xor, o_shl, o_shr, o_ushr, o_max, o_min, o_i2b, o_i2c, o_i2l, o_l2i, x_fld, j_fget, x_idx, j_aget, x_len, j_alen, x_ofb, x_ite, xs_nil, xs_cons, x_callv, x_calls, s_callv, s_calls, j_recv, j_ret, j_retv, b_cmp, b_and, b_or, b_not, b_ofi, b_ite, b_true, s_skip, s_set, j_ty, j_lset, j_kill, s_inc, s_fput, j_fput, s_fop, s_aput, j_aput, j_nar, s_aop, s_ret, s_retv, s_go, s_pop, x_linc, x_finc, Value.category, if_icmp.holds, List.flatMap_cons, List.flatMap_nil, List.length_cons, List.length_append, List.length_nil, List.set_cons_succ, List.set_cons_zero, List.getElem?_cons_succ, List.getElem?_cons_zero, List.replicate, ite_and', ite_or', ite_int', nI_leI, nI_ltI, nI_eq, nI_add, nI_1, pk_mul, nI_clamp, n_in', nI_pos', nI_pos, n_m1e, n_01, n_10, sT_1, sR_1_0, sR_1_1, sR_1_2, sR_1_3, sR_1_4, sR_1_5, sR_1_6, sR_1_7, sR_1_8, sR_1_9, sT_2, sT_3, sT_4, sT_5, sT_6, sT_7, sT_8, sT_9, sT_10, sT_11, sT_12, sT_13, sT_14, sR_2_1, sR_2_2, sR_2_3, sR_2_4, sR_2_5, sR_2_6, sR_2_7, sR_2_8, sR_2_9, sR_2_10, sR_2_11, sR_2_12, sT_15, sT_16, sT_17, sT_18, sT_19, sT_20, sT_21, sT_22, sT_23, sR_15_1, sR_15_2, sR_15_3, sR_15_4, sR_15_5, sR_15_6, sR_15_7, sR_15_8, sT_24, sT_25, sT_26, sT_27, sT_28, sT_29, sR_24_1, sR_24_2, sR_24_3, sR_24_4, sR_24_5, sT_71, sT_72, sR_71_0, sR_71_1, sR_71_2, sR_71_3, sR_71_4, sT_73, sT_74, sT_75, sR_73_0, sR_73_1, sR_73_2, sR_73_3, sR_73_4, sR_73_5, sT_84, sT_85, sT_86, sT_87, sR_84_0, sR_84_1, sR_84_2, sR_84_3, sR_84_4, sR_84_5, sT_88, sT_89, sR_88_0, sT_90, sT_91, sR_90_0, n10, e1]
      · unfold oIni
        have : (fun p => oRem A none none (some b) p 0) = fun p => (lL A p).filter (fun c => c != b) := funext fun p => rem_mi A b p
        simp only [this]
    · rw [if_neg z2] at hg; cases hg
theorem gnc_z_ok {A : AS} {h : jHp} (mk : MK A h) {S T : Nat} (hS : S < 2 ^ aNb A) (hT : T < 2 ^ aNb A) (mS : sMat A S) (mT : sMat A T) (c8 : hI h 84 8 = nI (slM A T)) (x y v3 : Int32) : ∃ h' L, gnc_z ([.ref 1, .int x, .int y, .int v3, .int (nI (slM A S)), .null, .null], h) = some (.inr (some (.int (nI (popN 32 (sMov A S T))))), (L, h')) ∧ Fr W90 h h' ∧ CRw [nI T, nI (sMov A S T)] h' := by
  have hs := mk.1.1
  have w := mk.1.2.1
  have hn := w.1.1
  have c0 := mk.1.2.2.2.1
  have cb := mk.1.2.2.1
  have hL := loop_n (lb := 1) (lc := 2) (c := lc_S_gone_1) (b := lb_S_gone_1) (u := lu_S_gone_1) (aNp A) (fun p (m : Nat) => (([.ref 1, .int x, .int y, .int v3, .int (nI (slM A S)), .int (nI m), .int (nI p)], h) : jS)) (fun p m => if sBnd A S p = sBnd A T p then m else m ||| 2 ^ p) (fun _ _ => True)
    (fun p m hp _ => by
      have s1 := (cb.2.2.2 p (by omega)).2.2
      have hX : (nI (slM A S) ^^^ nI (slM A T)) &&& nI (slP A p) = nI ((slM A S ^^^ slM A T) &&& slP A p) := by rw [n_xor, n_and]
      have hX0 : (nI ((slM A S ^^^ slM A T) &&& slP A p) = 0) = (sBnd A S p = sBnd A T p) := by
        rw [propext (n_eq0 (Nat.lt_of_le_of_lt Nat.and_le_right (slP_lt w p)))]
        exact mov_ok w hS hT mS mT p
      have hsh := n_shl 1 (k := p) (by omega)
      rw [Nat.one_mul] at hsh
      refine ⟨trivial, ?_⟩
      generalize (slM A S ^^^ slM A T) &&& slP A p = Y at *
      by_cases q : sBnd A S p = sBnd A T p
      · simp (disch := first | assumption | omega) [lstp, lc_S_gone_1, lb_S_gone_1, lu_S_gone_1, j_meth, j_out, j_rok, j_pad, lg_sl, s_seq_w, isN_inl, isN_inr, s_if, jb, x_c, x_iloc, x_aloc, x_lloc, x_bin, x_un, o_add, o_sub, o_mul, o_and, o_or, o_xor, o_shl, o_shr, o_ushr, o_max, o_min, o_i2b, o_i2c, o_i2l, o_l2i, x_fld, j_fget, x_idx, j_aget, x_len, j_alen, x_ofb, x_ite, xs_nil, xs_cons, x_callv, x_calls, s_callv, s_calls, j_recv, j_ret, j_retv, b_cmp, b_and, b_or, b_not, b_ofi, b_ite, b_true, s_skip, s_set, j_ty, j_lset, j_kill, s_inc, s_fput, j_fput, s_fop, s_aput, j_aput, j_nar, s_aop, s_ret, s_retv, s_go, s_pop, x_linc, x_finc, Value.category, if_icmp.holds, List.flatMap_cons, List.flatMap_nil, List.length_cons, List.length_append, List.length_nil, List.set_cons_succ, List.set_cons_zero, List.getElem?_cons_succ, List.getElem?_cons_zero, List.replicate, ite_and', ite_or', ite_int', nI_leI, nI_ltI, nI_eq, nI_add, nI_1, pk_mul, nI_clamp, n_in', nI_pos', nI_pos, n_m1e, n_01, n_10, sT_1, sR_1_0, sR_1_1, sR_1_2, sR_1_3, sR_1_4, sR_1_5, sR_1_6, sR_1_7, sR_1_8, sR_1_9, sT_2, sT_3, sT_4, sT_5, sT_6, sT_7, sT_8, sT_9, sT_10, sT_11, sT_12, sT_13, sT_14, sR_2_1, sR_2_2, sR_2_3, sR_2_4, sR_2_5, sR_2_6, sR_2_7, sR_2_8, sR_2_9, sR_2_10, sR_2_11, sR_2_12, sT_15, sT_16, sT_17, sT_18, sT_19, sT_20, sT_21, sT_22, sT_23, sR_15_1, sR_15_2, sR_15_3, sR_15_4, sR_15_5, sR_15_6, sR_15_7, sR_15_8, sT_24, sT_25, sT_26, sT_27, sT_28, sT_29, sR_24_1, sR_24_2, sR_24_3, sR_24_4, sR_24_5, sT_71, sT_72, sR_71_0, sR_71_1, sR_71_2, sR_71_3, sR_71_4, sT_73, sT_74, sT_75, sR_73_0, sR_73_1, sR_73_2, sR_73_3, sR_73_4, sR_73_5, sT_84, sT_85, sT_86, sT_87, sR_84_0, sR_84_1, sR_84_2, sR_84_3, sR_84_4, sR_84_5, sT_88, sT_89, sR_88_0, sT_90, sT_91, sR_90_0, c0, hp, c8, s1, hX, hX0, q]
      · simp (disch := first | assumption | omega) [lstp, lc_S_gone_1, lb_S_gone_1, lu_S_gone_1, j_meth, j_out, j_rok, j_pad, lg_sl, s_seq_w, isN_inl, isN_inr, s_if, jb, x_c, x_iloc, x_aloc, x_lloc, x_bin, x_un, o_add, o_sub, o_mul, o_and, o_or, o_xor, o_shl, o_shr, o_ushr, o_max, o_min, o_i2b, o_i2c, o_i2l, o_l2i, x_fld, j_fget, x_idx, j_aget, x_len, j_alen, x_ofb, x_ite, xs_nil, xs_cons, x_callv, x_calls, s_callv, s_calls, j_recv, j_ret, j_retv, b_cmp, b_and, b_or, b_not, b_ofi, b_ite, b_true, s_skip, s_set, j_ty, j_lset, j_kill, s_inc, s_fput, j_fput, s_fop, s_aput, j_aput, j_nar, s_aop, s_ret, s_retv, s_go, s_pop, x_linc, x_finc, Value.category, if_icmp.holds, List.flatMap_cons, List.flatMap_nil, List.length_cons, List.length_append, List.length_nil, List.set_cons_succ, List.set_cons_zero, List.getElem?_cons_succ, List.getElem?_cons_zero, List.replicate, ite_and', ite_or', ite_int', nI_leI, nI_ltI, nI_eq, nI_add, nI_1, pk_mul, nI_clamp, n_in', nI_pos', nI_pos, n_m1e, n_01, n_10, sT_1, sR_1_0, sR_1_1, sR_1_2, sR_1_3, sR_1_4, sR_1_5, sR_1_6, sR_1_7, sR_1_8, sR_1_9, sT_2, sT_3, sT_4, sT_5, sT_6, sT_7, sT_8, sT_9, sT_10, sT_11, sT_12, sT_13, sT_14, sR_2_1, sR_2_2, sR_2_3, sR_2_4, sR_2_5, sR_2_6, sR_2_7, sR_2_8, sR_2_9, sR_2_10, sR_2_11, sR_2_12, sT_15, sT_16, sT_17, sT_18, sT_19, sT_20, sT_21, sT_22, sT_23, sR_15_1, sR_15_2, sR_15_3, sR_15_4, sR_15_5, sR_15_6, sR_15_7, sR_15_8, sT_24, sT_25, sT_26, sT_27, sT_28, sT_29, sR_24_1, sR_24_2, sR_24_3, sR_24_4, sR_24_5, sT_71, sT_72, sR_71_0, sR_71_1, sR_71_2, sR_71_3, sR_71_4, sT_73, sT_74, sT_75, sR_73_0, sR_73_1, sR_73_2, sR_73_3, sR_73_4, sR_73_5, sT_84, sT_85, sT_86, sT_87, sR_84_0, sR_84_1, sR_84_2, sR_84_3, sR_84_4, sR_84_5, sT_88, sT_89, sR_88_0, sT_90, sT_91, sR_90_0, c0, hp, c8, s1, hX, hX0, q, hsh, n_or])
    (fun m _ => by simp (disch := first | assumption | omega) [lstp, lc_S_gone_1, lb_S_gone_1, lu_S_gone_1, j_meth, j_out, j_rok, j_pad, lg_sl, s_seq_w, isN_inl, isN_inr, s_if, jb, x_c, x_iloc, x_aloc, x_lloc, x_bin, x_un, o_add, o_sub, o_mul, o_and, o_or, o_xor, o_shl, o_shr, o_ushr, o_max, o_min, o_i2b, o_i2c, o_i2l, o_l2i, x_fld, j_fget, x_idx, j_aget, x_len, j_alen, x_ofb, x_ite, xs_nil, xs_cons, x_callv, x_calls, s_callv, s_calls, j_recv, j_ret, j_retv, b_cmp, b_and, b_or, b_not, b_ofi, b_ite, b_true, s_skip, s_set, j_ty, j_lset, j_kill, s_inc, s_fput, j_fput, s_fop, s_aput, j_aput, j_nar, s_aop, s_ret, s_retv, s_go, s_pop, x_linc, x_finc, Value.category, if_icmp.holds, List.flatMap_cons, List.flatMap_nil, List.length_cons, List.length_append, List.length_nil, List.set_cons_succ, List.set_cons_zero, List.getElem?_cons_succ, List.getElem?_cons_zero, List.replicate, ite_and', ite_or', ite_int', nI_leI, nI_ltI, nI_eq, nI_add, nI_1, pk_mul, nI_clamp, n_in', nI_pos', nI_pos, n_m1e, n_01, n_10, sT_1, sR_1_0, sR_1_1, sR_1_2, sR_1_3, sR_1_4, sR_1_5, sR_1_6, sR_1_7, sR_1_8, sR_1_9, sT_2, sT_3, sT_4, sT_5, sT_6, sT_7, sT_8, sT_9, sT_10, sT_11, sT_12, sT_13, sT_14, sR_2_1, sR_2_2, sR_2_3, sR_2_4, sR_2_5, sR_2_6, sR_2_7, sR_2_8, sR_2_9, sR_2_10, sR_2_11, sR_2_12, sT_15, sT_16, sT_17, sT_18, sT_19, sT_20, sT_21, sT_22, sT_23, sR_15_1, sR_15_2, sR_15_3, sR_15_4, sR_15_5, sR_15_6, sR_15_7, sR_15_8, sT_24, sT_25, sT_26, sT_27, sT_28, sT_29, sR_24_1, sR_24_2, sR_24_3, sR_24_4, sR_24_5, sT_71, sT_72, sR_71_0, sR_71_1, sR_71_2, sR_71_3, sR_71_4, sT_73, sT_74, sT_75, sR_73_0, sR_73_1, sR_73_2, sR_73_3, sR_73_4, sR_73_5, sT_84, sT_85, sT_86, sT_87, sR_84_0, sR_84_1, sR_84_2, sR_84_3, sR_84_4, sR_84_5, sT_88, sT_89, sR_88_0, sT_90, sT_91, sR_90_0, c0]) 0 trivial
  have hM : nfo (fun p m => if sBnd A S p = sBnd A T p then m else m ||| 2 ^ p) (aNp A) 0 = sMov A S T := rfl
  rw [hM] at hL
  have es := e_B_setOf hs w cb (slM_lt w T)
  rw [stM_slM w hT] at es
  obtain ⟨h1, e1, f1, c1⟩ := e_S_tellTwo hs (nI T) (nI (sMov A S T))
  have hs1 := Fr_shape hs f1
  have eb := e_J_bitCount h1 (x := sMov A S T) (by have := sMov_lt w S T; omega)
  refine ⟨h1, [.ref 1, .int x, .int y, .int v3, .int (nI (slM A S)), .int (nI (sMov A S T)), .int (nI (aNp A))], ?_, f1, c1⟩
  generalize sMov A S T = M at *
  generalize slM A T = TT at *
  generalize slM A S = SS at *
  simp only [nI_0] at hL
  simp (disch := first | assumption | omega) [gnc_z, j_meth, j_out, j_rok, j_pad, lg_sl, s_seq_w, isN_inl, isN_inr, s_if, jb, x_c, x_iloc, x_aloc, x_lloc, x_bin, x_un, o_add, o_sub, o_mul, o_and, o_or, o_xor, o_shl, o_shr, o_ushr, o_max, o_min, o_i2b, o_i2c, o_i2l, o_l2i, x_fld, j_fget, x_idx, j_aget, x_len, j_alen, x_ofb, x_ite, xs_nil, xs_cons, x_callv, x_calls, s_callv, s_calls, j_recv, j_ret, j_retv, b_cmp, b_and, b_or, b_not, b_ofi, b_ite, b_true, s_skip, s_set, j_ty, j_lset, j_kill, s_inc, s_fput, j_fput, s_fop, s_aput, j_aput, j_nar, s_aop, s_ret, s_retv, s_go, s_pop, x_linc, x_finc, Value.category, if_icmp.holds, List.flatMap_cons, List.flatMap_nil, List.length_cons, List.length_append, List.length_nil, List.set_cons_succ, List.set_cons_zero, List.getElem?_cons_succ, List.getElem?_cons_zero, List.replicate, ite_and', ite_or', ite_int', nI_leI, nI_ltI, nI_eq, nI_add, nI_1, pk_mul, nI_clamp, n_in', nI_pos', nI_pos, n_m1e, n_01, n_10, sT_1, sR_1_0, sR_1_1, sR_1_2, sR_1_3, sR_1_4, sR_1_5, sR_1_6, sR_1_7, sR_1_8, sR_1_9, sT_2, sT_3, sT_4, sT_5, sT_6, sT_7, sT_8, sT_9, sT_10, sT_11, sT_12, sT_13, sT_14, sR_2_1, sR_2_2, sR_2_3, sR_2_4, sR_2_5, sR_2_6, sR_2_7, sR_2_8, sR_2_9, sR_2_10, sR_2_11, sR_2_12, sT_15, sT_16, sT_17, sT_18, sT_19, sT_20, sT_21, sT_22, sT_23, sR_15_1, sR_15_2, sR_15_3, sR_15_4, sR_15_5, sR_15_6, sR_15_7, sR_15_8, sT_24, sT_25, sT_26, sT_27, sT_28, sT_29, sR_24_1, sR_24_2, sR_24_3, sR_24_4, sR_24_5, sT_71, sT_72, sR_71_0, sR_71_1, sR_71_2, sR_71_3, sR_71_4, sT_73, sT_74, sT_75, sR_73_0, sR_73_1, sR_73_2, sR_73_3, sR_73_4, sR_73_5, sT_84, sT_85, sT_86, sT_87, sR_84_0, sR_84_1, sR_84_2, sR_84_3, sR_84_4, sR_84_5, sT_88, sT_89, sR_88_0, sT_90, sT_91, sR_90_0, nI_0, hL, c8, es, e1, eb]
theorem o_S_gone {A : AS} {tx : List Nat} {rw : List Int32} {h : jHp} (r : RC A tx rw h) (x y : Int32) : ∃ h', f_S_gone [.ref 1, .int x, .int y] h = some (some (.int (vGone A rw x y).1), h') ∧ RC A tx (vGone A rw x y).2 h' ∧ FC h h' := by
  have r0 := r
  obtain ⟨mk, ⟨ca, bl, d, sp⟩, c11, ct, cr, cs⟩ := r
  have hs := mk.1.1
  have w := mk.1.2.1
  have ea := gnc_a_ok mk x y (v4 := .null) (v5 := .null) (v6 := .null)
  have h10 : ((1 : Int32) = 0) = False := by decide
  unfold vGone
  cases hg : goneA x y A with
  | none =>
    rw [hg] at ea
    simp only [Option.isSome_none, Bool.false_eq_true, if_false] at ea
    refine ⟨h, ?_, r0, FC_refl h⟩
    simp (disch := first | assumption | omega) [f_S_gone, gnc_body, j_meth, j_out, j_rok, j_pad, lg_sl, s_seq_w, isN_inl, isN_inr, s_if, jb, x_c, x_iloc, x_aloc, x_lloc, x_bin, x_un, o_add, o_sub, o_mul, o_and, o_or, o_xor, o_shl, o_shr, o_ushr, o_max, o_min, o_i2b, o_i2c, o_i2l, o_l2i, x_fld, j_fget, x_idx, j_aget, x_len, j_alen, x_ofb, x_ite, xs_nil, xs_cons, x_callv, x_calls, s_callv, s_calls, j_recv, j_ret, j_retv, b_cmp, b_and, b_or, b_not, b_ofi, b_ite, b_true, s_skip, s_set, j_ty, j_lset, j_kill, s_inc, s_fput, j_fput, s_fop, s_aput, j_aput, j_nar, s_aop, s_ret, s_retv, s_go, s_pop, x_linc, x_finc, Value.category, if_icmp.holds, List.flatMap_cons, List.flatMap_nil, List.length_cons, List.length_append, List.length_nil, List.set_cons_succ, List.set_cons_zero, List.getElem?_cons_succ, List.getElem?_cons_zero, List.replicate, ite_and', ite_or', ite_int', nI_leI, nI_ltI, nI_eq, nI_add, nI_1, pk_mul, nI_clamp, n_in', nI_pos', nI_pos, n_m1e, n_01, n_10, sT_1, sR_1_0, sR_1_1, sR_1_2, sR_1_3, sR_1_4, sR_1_5, sR_1_6, sR_1_7, sR_1_8, sR_1_9, sT_2, sT_3, sT_4, sT_5, sT_6, sT_7, sT_8, sT_9, sT_10, sT_11, sT_12, sT_13, sT_14, sR_2_1, sR_2_2, sR_2_3, sR_2_4, sR_2_5, sR_2_6, sR_2_7, sR_2_8, sR_2_9, sR_2_10, sR_2_11, sR_2_12, sT_15, sT_16, sT_17, sT_18, sT_19, sT_20, sT_21, sT_22, sT_23, sR_15_1, sR_15_2, sR_15_3, sR_15_4, sR_15_5, sR_15_6, sR_15_7, sR_15_8, sT_24, sT_25, sT_26, sT_27, sT_28, sT_29, sR_24_1, sR_24_2, sR_24_3, sR_24_4, sR_24_5, sT_71, sT_72, sR_71_0, sR_71_1, sR_71_2, sR_71_3, sR_71_4, sT_73, sT_74, sT_75, sR_73_0, sR_73_1, sR_73_2, sR_73_3, sR_73_4, sR_73_5, sT_84, sT_85, sT_86, sT_87, sR_84_0, sR_84_1, sR_84_2, sR_84_3, sR_84_4, sR_84_5, sT_88, sT_89, sR_88_0, sT_90, sT_91, sR_90_0, ea]
  | some q =>
    rw [hg] at ea
    simp only [Option.isSome_some, if_true] at ea
    simp only
    obtain ⟨h1, bl1, e1, f1, o1, d1, ro1⟩ := e_O_load mk d
    have hs1 := o1.1.1.1
    obtain ⟨h2, s, hsq, e2, f2, b6, b7, b8, hl, -⟩ := e_O_run o1 (lL_ok w) ro1
    have o2 := OT_fr o1 f2 fun a j q => by unfold W847 at q; omega
    have hs2 := o2.1.1.1
    have ro2 := RO_fr ro1 f2 fun a j q => by unfold W847 at q; omega
    have d2 : DK A ca bl1 h2 := DK_ok d1 f2 fun a j q => by unfold W847 at q; omega
    have hso : sOut A none none none = s := by unfold sOut; rw [ini_lL, hsq]
    have hz : sOuV A none none none = if popN 32 (sPpl A s.2.1) = popN 32 s.2.1 then some s.2.1 else none := by unfold sOuV; rw [hso]
    have crf : ∀ {W : Nat → Nat → Prop} {g g' : jHp}, CRw rw g → Fr W g g' → (∀ a j, W a j → a ≤ 89) → CRw rw g' := fun c f hW => CRw_fr c f fun a j q => by have := hW a j q; omega
    have cr1 := crf cr f1 fun a j q => by
      rcases q with z | z
      · have := Wds_lt z; omega
      · unfold W856 at z; omega
    have cr2 := crf cr1 f2 fun a j q => by unfold W847 at q; omega
    have f12 : Fr okW h h2 := Fr_trans (Fr_mono f1 fun a j q => Wld_ok q) (Fr_mono f2 fun a j q => W847_ok q)
    have fin2 := RC_mk r0 d sp f12 (fun a j q => q) d2 cr2
    rw [hz]
    by_cases q1 : popN 32 (sPpl A s.2.1) = popN 32 s.2.1
    case neg =>
      rw [if_neg q1] at e2
      rw [if_neg q1]
      generalize sOuV A none q.1 q.2 = ov at *
      have hv : vG2 A rw none ov = (-3, rw) := by unfold vG2; cases ov <;> rfl
      rw [hv]
      refine ⟨h2, ?_, fin2⟩
      simp (disch := first | assumption | omega) [f_S_gone, gnc_body, j_meth, j_out, j_rok, j_pad, lg_sl, s_seq_w, isN_inl, isN_inr, s_if, jb, x_c, x_iloc, x_aloc, x_lloc, x_bin, x_un, o_add, o_sub, o_mul, o_and, o_or, o_xor, o_shl, o_shr, o_ushr, o_max, o_min, o_i2b, o_i2c, o_i2l, o_l2i, x_fld, j_fget, x_idx, j_aget, x_len, j_alen, x_ofb, x_ite, xs_nil, xs_cons, x_callv, x_calls, s_callv, s_calls, j_recv, j_ret, j_retv, b_cmp, b_and, b_or, b_not, b_ofi, b_ite, b_true, s_skip, s_set, j_ty, j_lset, j_kill, s_inc, s_fput, j_fput, s_fop, s_aput, j_aput, j_nar, s_aop, s_ret, s_retv, s_go, s_pop, x_linc, x_finc, Value.category, if_icmp.holds, List.flatMap_cons, List.flatMap_nil, List.length_cons, List.length_append, List.length_nil, List.set_cons_succ, List.set_cons_zero, List.getElem?_cons_succ, List.getElem?_cons_zero, List.replicate, ite_and', ite_or', ite_int', nI_leI, nI_ltI, nI_eq, nI_add, nI_1, pk_mul, nI_clamp, n_in', nI_pos', nI_pos, n_m1e, n_01, n_10, sT_1, sR_1_0, sR_1_1, sR_1_2, sR_1_3, sR_1_4, sR_1_5, sR_1_6, sR_1_7, sR_1_8, sR_1_9, sT_2, sT_3, sT_4, sT_5, sT_6, sT_7, sT_8, sT_9, sT_10, sT_11, sT_12, sT_13, sT_14, sR_2_1, sR_2_2, sR_2_3, sR_2_4, sR_2_5, sR_2_6, sR_2_7, sR_2_8, sR_2_9, sR_2_10, sR_2_11, sR_2_12, sT_15, sT_16, sT_17, sT_18, sT_19, sT_20, sT_21, sT_22, sT_23, sR_15_1, sR_15_2, sR_15_3, sR_15_4, sR_15_5, sR_15_6, sR_15_7, sR_15_8, sT_24, sT_25, sT_26, sT_27, sT_28, sT_29, sR_24_1, sR_24_2, sR_24_3, sR_24_4, sR_24_5, sT_71, sT_72, sR_71_0, sR_71_1, sR_71_2, sR_71_3, sR_71_4, sT_73, sT_74, sT_75, sR_73_0, sR_73_1, sR_73_2, sR_73_3, sR_73_4, sR_73_5, sT_84, sT_85, sT_86, sT_87, sR_84_0, sR_84_1, sR_84_2, sR_84_3, sR_84_4, sR_84_5, sT_88, sT_89, sR_88_0, sT_90, sT_91, sR_90_0, ea, h10, e1, e2]
    rw [if_pos q1] at e2
    rw [if_pos q1]
    have mS := (sMat_pop w hl).mp q1
    obtain ⟨h3, L, e3, f3, ro3, l3, hin⟩ := gnc_s_ok o2.1 ro2 hg 1 (nI (slM A s.2.1))
    have o3 := OT_fr o2 f3 fun a j q => by unfold W856 at q; omega
    have hs3 := o3.1.1.1
    have d3 : DK A ca bl1 h3 := DK_ok d2 f3 fun a j q => by unfold W856 at q; omega
    have cr3 := crf cr2 f3 fun a j q => by unfold W856 at q; omega
    obtain ⟨h4, t, htq, e4, f4, -, -, b84, hl4, -⟩ := e_O_run o3 l3 ro3
    have o4 := OT_fr o3 f4 fun a j q => by unfold W847 at q; omega
    have hs4 := o4.1.1.1
    have d4 : DK A ca bl1 h4 := DK_ok d3 f4 fun a j q => by unfold W847 at q; omega
    have cr4 := crf cr3 f4 fun a j q => by unfold W847 at q; omega
    have hso2 : sOut A none q.1 q.2 = t := by unfold sOut; rw [hin, htq]
    have hz2 : sOuV A none q.1 q.2 = if popN 32 (sPpl A t.2.1) = popN 32 t.2.1 then some t.2.1 else none := by unfold sOuV; rw [hso2]
    have f14 : Fr okW h h4 := Fr_trans f12 (Fr_trans (Fr_mono f3 fun a j q => Wld_ok (Or.inr q)) (Fr_mono f4 fun a j q => W847_ok q))
    have fin4 := RC_mk r0 d sp f14 (fun a j q => q) d4 cr4
    rw [hz2]
    by_cases q2 : popN 32 (sPpl A t.2.1) = popN 32 t.2.1
    case neg =>
      rw [if_neg q2] at e4
      rw [if_neg q2]
      have hv : vG2 A rw (some s.2.1) none = (-3, rw) := rfl
      rw [hv]
      refine ⟨h4, ?_, fin4⟩
      clear d d1 d2 d3 d4 o1 o2 o3 o4 f1 f2 f3 f4 f12 f14 fin2 fin4 crf cr1 cr2 cr3 cr4 ro1 ro2 ro3 l3 hz hz2 hso hso2
      generalize slM A s.2.1 = S at *
      simp (disch := first | assumption | omega) [f_S_gone, gnc_body, j_meth, j_out, j_rok, j_pad, lg_sl, s_seq_w, isN_inl, isN_inr, s_if, jb, x_c, x_iloc, x_aloc, x_lloc, x_bin, x_un, o_add, o_sub, o_mul, o_and, o_or, o_xor, o_shl, o_shr, o_ushr, o_max, o_min, o_i2b, o_i2c, o_i2l, o_l2i, x_fld, j_fget, x_idx, j_aget, x_len, j_alen, x_ofb, x_ite, xs_nil, xs_cons, x_callv, x_calls, s_callv, s_calls, j_recv, j_ret, j_retv, b_cmp, b_and, b_or, b_not, b_ofi, b_ite, b_true, s_skip, s_set, j_ty, j_lset, j_kill, s_inc, s_fput, j_fput, s_fop, s_aput, j_aput, j_nar, s_aop, s_ret, s_retv, s_go, s_pop, x_linc, x_finc, Value.category, if_icmp.holds, List.flatMap_cons, List.flatMap_nil, List.length_cons, List.length_append, List.length_nil, List.set_cons_succ, List.set_cons_zero, List.getElem?_cons_succ, List.getElem?_cons_zero, List.replicate, ite_and', ite_or', ite_int', nI_leI, nI_ltI, nI_eq, nI_add, nI_1, pk_mul, nI_clamp, n_in', nI_pos', nI_pos, n_m1e, n_01, n_10, sT_1, sR_1_0, sR_1_1, sR_1_2, sR_1_3, sR_1_4, sR_1_5, sR_1_6, sR_1_7, sR_1_8, sR_1_9, sT_2, sT_3, sT_4, sT_5, sT_6, sT_7, sT_8, sT_9, sT_10, sT_11, sT_12, sT_13, sT_14, sR_2_1, sR_2_2, sR_2_3, sR_2_4, sR_2_5, sR_2_6, sR_2_7, sR_2_8, sR_2_9, sR_2_10, sR_2_11, sR_2_12, sT_15, sT_16, sT_17, sT_18, sT_19, sT_20, sT_21, sT_22, sT_23, sR_15_1, sR_15_2, sR_15_3, sR_15_4, sR_15_5, sR_15_6, sR_15_7, sR_15_8, sT_24, sT_25, sT_26, sT_27, sT_28, sT_29, sR_24_1, sR_24_2, sR_24_3, sR_24_4, sR_24_5, sT_71, sT_72, sR_71_0, sR_71_1, sR_71_2, sR_71_3, sR_71_4, sT_73, sT_74, sT_75, sR_73_0, sR_73_1, sR_73_2, sR_73_3, sR_73_4, sR_73_5, sT_84, sT_85, sT_86, sT_87, sR_84_0, sR_84_1, sR_84_2, sR_84_3, sR_84_4, sR_84_5, sT_88, sT_89, sR_88_0, sT_90, sT_91, sR_90_0, ea, h10, e1, e2, b8, e3, e4]
    rw [if_pos q2] at e4
    rw [if_pos q2]
    have mT := (sMat_pop w hl4).mp q2
    obtain ⟨h5, K, e5, f5, c5⟩ := gnc_z_ok o4.1 hl hl4 mS mT b84 x y 1
    have hs5 := Fr_shape hs4 f5
    have fin5 := RC_mk fin4.1 d4 ⟨by rw [f14.1.2.1]; exact sp.1, sp.2⟩ f5 (fun a j q => W90_ok q) (DK_90 d4 f5) c5
    refine ⟨h5, ?_, fin5.1, FC_trans fin4.2 fin5.2⟩
    show f_S_gone [.ref 1, .int x, .int y] h = some (some (.int (nI (popN 32 (sMov A s.2.1 t.2.1)))), h5)
    clear d d1 d2 d3 d4 o1 o2 o3 o4 f1 f2 f3 f4 f5 f12 f14 fin2 fin4 fin5 crf cr1 cr2 cr3 cr4 c5 ro1 ro2 ro3 l3 hz hz2 hso hso2
    generalize popN 32 (sMov A s.2.1 t.2.1) = R at *
    generalize slM A s.2.1 = S at *
    simp (disch := first | assumption | omega) [f_S_gone, gnc_body, j_meth, j_out, j_rok, j_pad, lg_sl, s_seq_w, isN_inl, isN_inr, s_if, jb, x_c, x_iloc, x_aloc, x_lloc, x_bin, x_un, o_add, o_sub, o_mul, o_and, o_or, o_xor, o_shl, o_shr, o_ushr, o_max, o_min, o_i2b, o_i2c, o_i2l, o_l2i, x_fld, j_fget, x_idx, j_aget, x_len, j_alen, x_ofb, x_ite, xs_nil, xs_cons, x_callv, x_calls, s_callv, s_calls, j_recv, j_ret, j_retv, b_cmp, b_and, b_or, b_not, b_ofi, b_ite, b_true, s_skip, s_set, j_ty, j_lset, j_kill, s_inc, s_fput, j_fput, s_fop, s_aput, j_aput, j_nar, s_aop, s_ret, s_retv, s_go, s_pop, x_linc, x_finc, Value.category, if_icmp.holds, List.flatMap_cons, List.flatMap_nil, List.length_cons, List.length_append, List.length_nil, List.set_cons_succ, List.set_cons_zero, List.getElem?_cons_succ, List.getElem?_cons_zero, List.replicate, ite_and', ite_or', ite_int', nI_leI, nI_ltI, nI_eq, nI_add, nI_1, pk_mul, nI_clamp, n_in', nI_pos', nI_pos, n_m1e, n_01, n_10, sT_1, sR_1_0, sR_1_1, sR_1_2, sR_1_3, sR_1_4, sR_1_5, sR_1_6, sR_1_7, sR_1_8, sR_1_9, sT_2, sT_3, sT_4, sT_5, sT_6, sT_7, sT_8, sT_9, sT_10, sT_11, sT_12, sT_13, sT_14, sR_2_1, sR_2_2, sR_2_3, sR_2_4, sR_2_5, sR_2_6, sR_2_7, sR_2_8, sR_2_9, sR_2_10, sR_2_11, sR_2_12, sT_15, sT_16, sT_17, sT_18, sT_19, sT_20, sT_21, sT_22, sT_23, sR_15_1, sR_15_2, sR_15_3, sR_15_4, sR_15_5, sR_15_6, sR_15_7, sR_15_8, sT_24, sT_25, sT_26, sT_27, sT_28, sT_29, sR_24_1, sR_24_2, sR_24_3, sR_24_4, sR_24_5, sT_71, sT_72, sR_71_0, sR_71_1, sR_71_2, sR_71_3, sR_71_4, sT_73, sT_74, sT_75, sR_73_0, sR_73_1, sR_73_2, sR_73_3, sR_73_4, sR_73_5, sT_84, sT_85, sT_86, sT_87, sR_84_0, sR_84_1, sR_84_2, sR_84_3, sR_84_4, sR_84_5, sT_88, sT_89, sR_88_0, sT_90, sT_91, sR_90_0, ea, h10, e1, e2, b8, e3, e4, e5]
