theorem o_M_law {A : AS} {tx : List Nat} {rw : List Int32} {h : jHp} (r : RMX A tx rw h) (f x : Int32) : ∃ h', f_M_law [.ref 98, .int f, .int x] h = some (some (.int (vLaw A rw f x).1), h') ∧ RMX A tx (vLaw A rw f x).2 h' ∧ Fr WM h h' := by
  have hs := r.1.1
  have w := r.1.2.1
  have hno := w.2.1
  have r0 := RMX_33 r (nI 0)
  have m0 := op_33 r
  have hs0 := r0.1.1
  have ef := e_M_isOffice hs0 w r0.1.2.2.2.1 f
  generalize hh0 : hSetI h 98 33 (nI 0) = h0 at *
  have hh0' : hSetI h 98 33 0 = h0 := by rw [← hh0, nI_0]
  have ei := e_M_in h0 x (nI 0) (nI 1)
  have hin : (nI 0 ≤ x ∧ x ≤ nI 1) ↔ (x = nI 0 ∨ x = nI 1) := by
    constructor
    · rintro ⟨a, b⟩
      obtain ⟨n, hn, rfl⟩ := nI_of (x := x) (Int32.not_lt.mpr a)
      rw [nI_leI (by omega) (by omega)] at b
      have : n = 0 ∨ n = 1 := by omega
      rcases this with rfl | rfl
      · exact Or.inl rfl
      · exact Or.inr rfl
    · rintro (rfl | rfl) <;> decide
  unfold vLaw
  by_cases hf : j_in f (aNo A) = true
  case neg =>
    rw [if_neg (fun q => hf q.1)]
    rw [if_neg hf] at ef
    refine ⟨h0, ?_, op_fin r m0 r0.2.2.2.1⟩
    simp (disch := first | assumption | omega) [f_M_law, body_M_law, j_meth, j_out, j_rok, j_pad, lg_sl, s_seq_w, isN_inl, isN_inr, s_if, jb, x_c, x_iloc, x_aloc, x_lloc, x_bin, x_un, o_add, o_sub, o_mul, o_and, o_or, o_xor, o_shl, o_shr, o_ushr, o_max, o_min, o_i2b, o_i2c, o_i2l, o_l2i, x_fld, j_fget, x_idx, j_aget, x_len, j_alen, x_ofb, x_ite, xs_nil, xs_cons, x_callv, x_calls, s_callv, s_calls, j_recv, j_ret, j_retv, b_cmp, b_and, b_or, b_not, b_ofi, b_ite, b_true, s_skip, s_set, j_ty, j_lset, j_kill, s_inc, s_fput, j_fput, s_fop, s_aput, j_aput, j_nar, s_aop, s_ret, s_retv, s_go, s_pop, x_linc, x_finc, Value.category, if_icmp.holds, List.flatMap_cons, List.flatMap_nil, List.length_cons, List.length_append, List.length_nil, List.set_cons_succ, List.set_cons_zero, List.getElem?_cons_succ, List.getElem?_cons_zero, List.replicate, ite_and', ite_or', ite_int', nI_leI, nI_ltI, nI_eq, nI_add, nI_1, pk_mul, nI_clamp, n_in', nI_pos', nI_pos, n_m1e, n_01, n_10, sT_98, sT_99, sT_100, sT_101, sT_102, sT_103, sT_104, sT_105, sT_106, sT_107, sT_108, sT_109, sT_110, sT_111, sT_112, sT_113, sT_114, sT_115, sT_116, sT_117, sT_118, sT_119, sT_120, sT_121, sT_122, sT_123, sT_124, sT_125, sT_126, sT_127, sT_128, sT_129, sT_130, sT_131, sT_132, sT_133, sT_134, sT_135, sT_136, sT_137, sT_138, sT_139, sT_140, sR_98_1, sR_98_4, sR_98_5, sR_98_6, sR_98_7, sR_98_8, sR_98_9, sR_98_10, sR_98_12, sR_98_13, sR_98_14, sR_98_15, sR_98_16, sR_98_17, sR_98_18, sR_98_19, sR_98_20, sR_98_21, sR_98_22, sR_98_23, sR_98_24, sR_98_25, sR_98_26, sR_98_27, sR_98_28, sR_98_29, sR_98_31, sR_98_34, sR_98_35, sR_98_36, sR_98_42, sR_98_44, sR_98_45, sR_98_47, sR_98_49, sR_98_51, sR_98_56, sR_98_58, sR_98_62, sR_98_65, sR_98_66, sR_98_69, nI_0, hh0', ef]
  by_cases hx : x = nI 0 ∨ x = nI 1
  case neg =>
    rw [if_neg (fun q => hx q.2)]
    rw [if_pos hf] at ef
    rw [if_neg (fun q => hx (hin.mp q))] at ei
    simp only [nI_0] at ei
    refine ⟨h0, ?_, op_fin r m0 r0.2.2.2.1⟩
    simp (disch := first | assumption | omega) [f_M_law, body_M_law, j_meth, j_out, j_rok, j_pad, lg_sl, s_seq_w, isN_inl, isN_inr, s_if, jb, x_c, x_iloc, x_aloc, x_lloc, x_bin, x_un, o_add, o_sub, o_mul, o_and, o_or, o_xor, o_shl, o_shr, o_ushr, o_max, o_min, o_i2b, o_i2c, o_i2l, o_l2i, x_fld, j_fget, x_idx, j_aget, x_len, j_alen, x_ofb, x_ite, xs_nil, xs_cons, x_callv, x_calls, s_callv, s_calls, j_recv, j_ret, j_retv, b_cmp, b_and, b_or, b_not, b_ofi, b_ite, b_true, s_skip, s_set, j_ty, j_lset, j_kill, s_inc, s_fput, j_fput, s_fop, s_aput, j_aput, j_nar, s_aop, s_ret, s_retv, s_go, s_pop, x_linc, x_finc, Value.category, if_icmp.holds, List.flatMap_cons, List.flatMap_nil, List.length_cons, List.length_append, List.length_nil, List.set_cons_succ, List.set_cons_zero, List.getElem?_cons_succ, List.getElem?_cons_zero, List.replicate, ite_and', ite_or', ite_int', nI_leI, nI_ltI, nI_eq, nI_add, nI_1, pk_mul, nI_clamp, n_in', nI_pos', nI_pos, n_m1e, n_01, n_10, sT_98, sT_99, sT_100, sT_101, sT_102, sT_103, sT_104, sT_105, sT_106, sT_107, sT_108, sT_109, sT_110, sT_111, sT_112, sT_113, sT_114, sT_115, sT_116, sT_117, sT_118, sT_119, sT_120, sT_121, sT_122, sT_123, sT_124, sT_125, sT_126, sT_127, sT_128, sT_129, sT_130, sT_131, sT_132, sT_133, sT_134, sT_135, sT_136, sT_137, sT_138, sT_139, sT_140, sR_98_1, sR_98_4, sR_98_5, sR_98_6, sR_98_7, sR_98_8, sR_98_9, sR_98_10, sR_98_12, sR_98_13, sR_98_14, sR_98_15, sR_98_16, sR_98_17, sR_98_18, sR_98_19, sR_98_20, sR_98_21, sR_98_22, sR_98_23, sR_98_24, sR_98_25, sR_98_26, sR_98_27, sR_98_28, sR_98_29, sR_98_31, sR_98_34, sR_98_35, sR_98_36, sR_98_42, sR_98_44, sR_98_45, sR_98_47, sR_98_49, sR_98_51, sR_98_56, sR_98_58, sR_98_62, sR_98_65, sR_98_66, sR_98_69, nI_0, hh0', ef, ei]
  rw [if_pos ⟨hf, hx⟩]
  rw [if_pos hf] at ef
  rw [if_pos (hin.mpr hx)] at ei
  simp only [nI_0] at ei
  have hxu : (x = 0) = (decide (x = nI 0) = true) := by rw [nI_0]; simp
  generalize decide (x = nI 0) = u at *
  obtain ⟨f, hf', rfl⟩ := j_in_ex hf (by omega)
  rw [nI_clamp (show f < 2 ^ 31 by omega)]
  have eb := e_M_bondsOf r0.1 (f := f) (by omega)
  have hol := sOff_lt w f
  have hlaw : sLaw A f u = match fst1 (fun S => S &&& sOff A f == S && (sLwS A f u S).isSome) (sOff A f + 1) with
    | some S => some (S, (sLwS A f u S).getD 0)
    | none => none := rfl
  have hX := loop_ind (lb := 1) (lc := 2) (c := lc_M_law_1) (b := lb_M_law_1) (u := lu_M_law_1) (fun (t : Nat × jHp × Value × Value × Value × Value) => (([.ref 98, .int (nI f), .int x, .int (nI (sOff A f)), .int (nI t.1), t.2.2.1, t.2.2.2.1, t.2.2.2.2.1, t.2.2.2.2.2], t.2.1) : jS))
    (fun t => t.1 &&& sOff A f = t.1 ∧ MW Wop A h t.2.1 ∧ RRw rw t.2.1 ∧ ∀ y, y < t.1 → (y &&& sOff A f == y && (sLwS A f u y).isSome) = false)
    (fun _ r => ∃ L h', MW Wop A h h' ∧ ((∃ q, sLaw A f u = some q ∧ r = (.inr (some (.int (nI 0))), (L, h')) ∧ RRw (rLaw A f u q) h') ∨ (sLaw A f u = none ∧ r = (.inr (some (.int (nI 1))), (L, h')) ∧ RRw rw h')))
    (fun t => sOff A f - t.1) ?_ (0, h0, .null, .null, .null, .null) ⟨Nat.zero_and _, m0, r0.2.2.2.1, fun y hy => by simp at hy⟩
  · obtain ⟨r2, e, L, h', m', ⟨q, g1, rfl, g2⟩ | ⟨g1, rfl, g2⟩⟩ := hX
    · rw [g1]
      refine ⟨h', ?_, op_fin r m' g2⟩
      simp only [nI_0] at e
      simp (disch := first | assumption | omega) [f_M_law, body_M_law, j_meth, j_out, j_rok, j_pad, lg_sl, s_seq_w, isN_inl, isN_inr, s_if, jb, x_c, x_iloc, x_aloc, x_lloc, x_bin, x_un, o_add, o_sub, o_mul, o_and, o_or, o_xor, o_shl, o_shr, o_ushr, o_max, o_min, o_i2b, o_i2c, o_i2l, o_l2i, x_fld, j_fget, x_idx, j_aget, x_len, j_alen, x_ofb, x_ite, xs_nil, xs_cons, x_callv, x_calls, s_callv, s_calls, j_recv, j_ret, j_retv, b_cmp, b_and, b_or, b_not, b_ofi, b_ite, b_true, s_skip, s_set, j_ty, j_lset, j_kill, s_inc, s_fput, j_fput, s_fop, s_aput, j_aput, j_nar, s_aop, s_ret, s_retv, s_go, s_pop, x_linc, x_finc, Value.category, if_icmp.holds, List.flatMap_cons, List.flatMap_nil, List.length_cons, List.length_append, List.length_nil, List.set_cons_succ, List.set_cons_zero, List.getElem?_cons_succ, List.getElem?_cons_zero, List.replicate, ite_and', ite_or', ite_int', nI_leI, nI_ltI, nI_eq, nI_add, nI_1, pk_mul, nI_clamp, n_in', nI_pos', nI_pos, n_m1e, n_01, n_10, sT_98, sT_99, sT_100, sT_101, sT_102, sT_103, sT_104, sT_105, sT_106, sT_107, sT_108, sT_109, sT_110, sT_111, sT_112, sT_113, sT_114, sT_115, sT_116, sT_117, sT_118, sT_119, sT_120, sT_121, sT_122, sT_123, sT_124, sT_125, sT_126, sT_127, sT_128, sT_129, sT_130, sT_131, sT_132, sT_133, sT_134, sT_135, sT_136, sT_137, sT_138, sT_139, sT_140, sR_98_1, sR_98_4, sR_98_5, sR_98_6, sR_98_7, sR_98_8, sR_98_9, sR_98_10, sR_98_12, sR_98_13, sR_98_14, sR_98_15, sR_98_16, sR_98_17, sR_98_18, sR_98_19, sR_98_20, sR_98_21, sR_98_22, sR_98_23, sR_98_24, sR_98_25, sR_98_26, sR_98_27, sR_98_28, sR_98_29, sR_98_31, sR_98_34, sR_98_35, sR_98_36, sR_98_42, sR_98_44, sR_98_45, sR_98_47, sR_98_49, sR_98_51, sR_98_56, sR_98_58, sR_98_62, sR_98_65, sR_98_66, sR_98_69, nI_0, hh0', ef, ei, eb, e]
    · rw [g1]
      refine ⟨h', ?_, op_fin r m' g2⟩
      simp only [nI_0, n_11] at e ei
      simp (disch := first | assumption | omega) [f_M_law, body_M_law, j_meth, j_out, j_rok, j_pad, lg_sl, s_seq_w, isN_inl, isN_inr, s_if, jb, x_c, x_iloc, x_aloc, x_lloc, x_bin, x_un, o_add, o_sub, o_mul, o_and, o_or, o_xor, o_shl, o_shr, o_ushr, o_max, o_min, o_i2b, o_i2c, o_i2l, o_l2i, x_fld, j_fget, x_idx, j_aget, x_len, j_alen, x_ofb, x_ite, xs_nil, xs_cons, x_callv, x_calls, s_callv, s_calls, j_recv, j_ret, j_retv, b_cmp, b_and, b_or, b_not, b_ofi, b_ite, b_true, s_skip, s_set, j_ty, j_lset, j_kill, s_inc, s_fput, j_fput, s_fop, s_aput, j_aput, j_nar, s_aop, s_ret, s_retv, s_go, s_pop, x_linc, x_finc, Value.category, if_icmp.holds, List.flatMap_cons, List.flatMap_nil, List.length_cons, List.length_append, List.length_nil, List.set_cons_succ, List.set_cons_zero, List.getElem?_cons_succ, List.getElem?_cons_zero, List.replicate, ite_and', ite_or', ite_int', nI_leI, nI_ltI, nI_eq, nI_add, nI_1, pk_mul, nI_clamp, n_in', nI_pos', nI_pos, n_m1e, n_01, n_10, sT_98, sT_99, sT_100, sT_101, sT_102, sT_103, sT_104, sT_105, sT_106, sT_107, sT_108, sT_109, sT_110, sT_111, sT_112, sT_113, sT_114, sT_115, sT_116, sT_117, sT_118, sT_119, sT_120, sT_121, sT_122, sT_123, sT_124, sT_125, sT_126, sT_127, sT_128, sT_129, sT_130, sT_131, sT_132, sT_133, sT_134, sT_135, sT_136, sT_137, sT_138, sT_139, sT_140, sR_98_1, sR_98_4, sR_98_5, sR_98_6, sR_98_7, sR_98_8, sR_98_9, sR_98_10, sR_98_12, sR_98_13, sR_98_14, sR_98_15, sR_98_16, sR_98_17, sR_98_18, sR_98_19, sR_98_20, sR_98_21, sR_98_22, sR_98_23, sR_98_24, sR_98_25, sR_98_26, sR_98_27, sR_98_28, sR_98_29, sR_98_31, sR_98_34, sR_98_35, sR_98_36, sR_98_42, sR_98_44, sR_98_45, sR_98_47, sR_98_49, sR_98_51, sR_98_56, sR_98_58, sR_98_62, sR_98_65, sR_98_66, sR_98_69, nI_0, hh0', ef, ei, eb, e, n_11]
  · rintro ⟨S, h1, v5, v6, v7, v8⟩ ⟨p1, m1, rr1, hall⟩
    simp only at p1 m1 rr1 hall ⊢
    have hSo := sub_le p1
    have k1 := m1.2.1
    have hs1 := k1.1
    obtain ⟨h2, e2, m2⟩ := x_M_takeOf k1 m1.2.2 hf' (S := S) (by omega)
    have m2' := MW_trans m1 (MX_MW m2 Wmk_op)
    have rr2 := MX_rw rr1 m2
    obtain ⟨h3, L3, m3, ⟨b, g1, g2, g3⟩ | ⟨g1, g2, a7, a8, g3⟩⟩ := e_law_2 m2' rr2 hxu hf' (S := S) (by omega) v7 v8
    · right
      have hfs : fst1 (fun S => S &&& sOff A f == S && (sLwS A f u S).isSome) (sOff A f + 1) = some S := fst1_of (by omega) (by simp [p1, g1]) hall
      rw [hfs] at hlaw
      simp only [g1, Option.getD_some] at hlaw
      refine ⟨_, ?_, L3, h3, m3, Or.inl ⟨(S, b), hlaw, rfl, g3⟩⟩
      simp only [nI_0] at g2
      simp (disch := first | assumption | omega) [lstp, lc_M_law_1, lb_M_law_1, lu_M_law_1, j_meth, j_out, j_rok, j_pad, lg_sl, s_seq_w, isN_inl, isN_inr, s_if, jb, x_c, x_iloc, x_aloc, x_lloc, x_bin, x_un, o_add, o_sub, o_mul, o_and, o_or, o_xor, o_shl, o_shr, o_ushr, o_max, o_min, o_i2b, o_i2c, o_i2l, o_l2i, x_fld, j_fget, x_idx, j_aget, x_len, j_alen, x_ofb, x_ite, xs_nil, xs_cons, x_callv, x_calls, s_callv, s_calls, j_recv, j_ret, j_retv, b_cmp, b_and, b_or, b_not, b_ofi, b_ite, b_true, s_skip, s_set, j_ty, j_lset, j_kill, s_inc, s_fput, j_fput, s_fop, s_aput, j_aput, j_nar, s_aop, s_ret, s_retv, s_go, s_pop, x_linc, x_finc, Value.category, if_icmp.holds, List.flatMap_cons, List.flatMap_nil, List.length_cons, List.length_append, List.length_nil, List.set_cons_succ, List.set_cons_zero, List.getElem?_cons_succ, List.getElem?_cons_zero, List.replicate, ite_and', ite_or', ite_int', nI_leI, nI_ltI, nI_eq, nI_add, nI_1, pk_mul, nI_clamp, n_in', nI_pos', nI_pos, n_m1e, n_01, n_10, sT_98, sT_99, sT_100, sT_101, sT_102, sT_103, sT_104, sT_105, sT_106, sT_107, sT_108, sT_109, sT_110, sT_111, sT_112, sT_113, sT_114, sT_115, sT_116, sT_117, sT_118, sT_119, sT_120, sT_121, sT_122, sT_123, sT_124, sT_125, sT_126, sT_127, sT_128, sT_129, sT_130, sT_131, sT_132, sT_133, sT_134, sT_135, sT_136, sT_137, sT_138, sT_139, sT_140, sR_98_1, sR_98_4, sR_98_5, sR_98_6, sR_98_7, sR_98_8, sR_98_9, sR_98_10, sR_98_12, sR_98_13, sR_98_14, sR_98_15, sR_98_16, sR_98_17, sR_98_18, sR_98_19, sR_98_20, sR_98_21, sR_98_22, sR_98_23, sR_98_24, sR_98_25, sR_98_26, sR_98_27, sR_98_28, sR_98_29, sR_98_31, sR_98_34, sR_98_35, sR_98_36, sR_98_42, sR_98_44, sR_98_45, sR_98_47, sR_98_49, sR_98_51, sR_98_56, sR_98_58, sR_98_62, sR_98_65, sR_98_66, sR_98_69, b_true, e2, nI_0, g2]
    · have hPS : (S &&& sOff A f == S && (sLwS A f u S).isSome) = false := by simp [g1]
      simp only [nI_0] at g3
      by_cases hSm : S = sOff A f
      · right
        have hfs : fst1 (fun S => S &&& sOff A f == S && (sLwS A f u S).isSome) (sOff A f + 1) = none := fst1_no fun y hy => by
          by_cases e : y = S
          · rw [e]; exact hPS
          · exact hall y (by omega)
        rw [hfs] at hlaw
        subst hSm
        refine ⟨(.inr (some (.int (nI 1))), ([.ref 98, .int (nI f), .int x, .int (nI (sOff A f)), .int (nI (sOff A f)), .int (nI (sTk A f (sOff A f))), .int (nI (aNb A)), a7, a8], h3)), ?_, _, h3, m3, Or.inr ⟨hlaw, rfl, g2⟩⟩
        simp (disch := first | assumption | omega) [lstp, lc_M_law_1, lb_M_law_1, lu_M_law_1, j_meth, j_out, j_rok, j_pad, lg_sl, s_seq_w, isN_inl, isN_inr, s_if, jb, x_c, x_iloc, x_aloc, x_lloc, x_bin, x_un, o_add, o_sub, o_mul, o_and, o_or, o_xor, o_shl, o_shr, o_ushr, o_max, o_min, o_i2b, o_i2c, o_i2l, o_l2i, x_fld, j_fget, x_idx, j_aget, x_len, j_alen, x_ofb, x_ite, xs_nil, xs_cons, x_callv, x_calls, s_callv, s_calls, j_recv, j_ret, j_retv, b_cmp, b_and, b_or, b_not, b_ofi, b_ite, b_true, s_skip, s_set, j_ty, j_lset, j_kill, s_inc, s_fput, j_fput, s_fop, s_aput, j_aput, j_nar, s_aop, s_ret, s_retv, s_go, s_pop, x_linc, x_finc, Value.category, if_icmp.holds, List.flatMap_cons, List.flatMap_nil, List.length_cons, List.length_append, List.length_nil, List.set_cons_succ, List.set_cons_zero, List.getElem?_cons_succ, List.getElem?_cons_zero, List.replicate, ite_and', ite_or', ite_int', nI_leI, nI_ltI, nI_eq, nI_add, nI_1, pk_mul, nI_clamp, n_in', nI_pos', nI_pos, n_m1e, n_01, n_10, sT_98, sT_99, sT_100, sT_101, sT_102, sT_103, sT_104, sT_105, sT_106, sT_107, sT_108, sT_109, sT_110, sT_111, sT_112, sT_113, sT_114, sT_115, sT_116, sT_117, sT_118, sT_119, sT_120, sT_121, sT_122, sT_123, sT_124, sT_125, sT_126, sT_127, sT_128, sT_129, sT_130, sT_131, sT_132, sT_133, sT_134, sT_135, sT_136, sT_137, sT_138, sT_139, sT_140, sR_98_1, sR_98_4, sR_98_5, sR_98_6, sR_98_7, sR_98_8, sR_98_9, sR_98_10, sR_98_12, sR_98_13, sR_98_14, sR_98_15, sR_98_16, sR_98_17, sR_98_18, sR_98_19, sR_98_20, sR_98_21, sR_98_22, sR_98_23, sR_98_24, sR_98_25, sR_98_26, sR_98_27, sR_98_28, sR_98_29, sR_98_31, sR_98_34, sR_98_35, sR_98_36, sR_98_42, sR_98_44, sR_98_45, sR_98_47, sR_98_49, sR_98_51, sR_98_56, sR_98_58, sR_98_62, sR_98_65, sR_98_66, sR_98_69, b_true, e2, nI_0, g3]
      · left
        obtain ⟨n1, n2⟩ := sub_succ 32 (sOff A f) S (by omega) p1 (by omega)
        have hnx : (2 ^ 32 + S - sOff A f) &&& sOff A f = nxt (sOff A f) S := rfl
        rw [hnx] at n1 n2
        have hpp : nxt (sOff A f) S &&& sOff A f = nxt (sOff A f) S := sub_and _ _
        have hle := sub_le hpp
        have hnn := n_nxt (m := sOff A f) (z := S) (by omega) hSo
        refine ⟨(nxt (sOff A f) S, h3, .int (nI (sTk A f S)), .int (nI (aNb A)), a7, a8), ⟨hpp, m3, g2, fun y hy => ?_⟩, by simp only; omega, ?_, fun r hr => hr⟩
        · by_cases y1 : y < S
          · exact hall y y1
          · by_cases y2 : y = S
            · rw [y2]; exact hPS
            · have : ¬ y &&& sOff A f = y := fun q => by have := n2 y q (by omega); simp only at hy; omega
              simp [this]
        · simp (disch := first | assumption | omega) [lstp, lc_M_law_1, lb_M_law_1, lu_M_law_1, j_meth, j_out, j_rok, j_pad, lg_sl, s_seq_w, isN_inl, isN_inr, s_if, jb, x_c, x_iloc, x_aloc, x_lloc, x_bin, x_un, o_add, o_sub, o_mul, o_and, o_or, o_xor, o_shl, o_shr, o_ushr, o_max, o_min, o_i2b, o_i2c, o_i2l, o_l2i, x_fld, j_fget, x_idx, j_aget, x_len, j_alen, x_ofb, x_ite, xs_nil, xs_cons, x_callv, x_calls, s_callv, s_calls, j_recv, j_ret, j_retv, b_cmp, b_and, b_or, b_not, b_ofi, b_ite, b_true, s_skip, s_set, j_ty, j_lset, j_kill, s_inc, s_fput, j_fput, s_fop, s_aput, j_aput, j_nar, s_aop, s_ret, s_retv, s_go, s_pop, x_linc, x_finc, Value.category, if_icmp.holds, List.flatMap_cons, List.flatMap_nil, List.length_cons, List.length_append, List.length_nil, List.set_cons_succ, List.set_cons_zero, List.getElem?_cons_succ, List.getElem?_cons_zero, List.replicate, ite_and', ite_or', ite_int', nI_leI, nI_ltI, nI_eq, nI_add, nI_1, pk_mul, nI_clamp, n_in', nI_pos', nI_pos, n_m1e, n_01, n_10, sT_98, sT_99, sT_100, sT_101, sT_102, sT_103, sT_104, sT_105, sT_106, sT_107, sT_108, sT_109, sT_110, sT_111, sT_112, sT_113, sT_114, sT_115, sT_116, sT_117, sT_118, sT_119, sT_120, sT_121, sT_122, sT_123, sT_124, sT_125, sT_126, sT_127, sT_128, sT_129, sT_130, sT_131, sT_132, sT_133, sT_134, sT_135, sT_136, sT_137, sT_138, sT_139, sT_140, sR_98_1, sR_98_4, sR_98_5, sR_98_6, sR_98_7, sR_98_8, sR_98_9, sR_98_10, sR_98_12, sR_98_13, sR_98_14, sR_98_15, sR_98_16, sR_98_17, sR_98_18, sR_98_19, sR_98_20, sR_98_21, sR_98_22, sR_98_23, sR_98_24, sR_98_25, sR_98_26, sR_98_27, sR_98_28, sR_98_29, sR_98_31, sR_98_34, sR_98_35, sR_98_36, sR_98_42, sR_98_44, sR_98_45, sR_98_47, sR_98_49, sR_98_51, sR_98_56, sR_98_58, sR_98_62, sR_98_65, sR_98_66, sR_98_69, b_true, e2, nI_0, g3, hSm, hnn]
-- gone
def goneA (x y : Int32) (A : AS) : Option (Option Nat × Option Nat) := if x = nI 0 ∧ j_in y (aNp A) then some (some y.toNatClampNeg, none) else if x = nI 1 ∧ j_in y (aNb A) then some (none, some y.toNatClampNeg) else none
def sMov (A : AS) (S T : Nat) : Nat := nfo (fun p m => if sBnd A S p = sBnd A T p then m else m ||| 2 ^ p) (aNp A) 0
def vG2 (A : AS) (rw : List Int32) : Option Nat → Option Nat → Int32 × List Int32
  | some S, some T => (nI (popN 32 (sMov A S T)), [nI T, nI (sMov A S T)])
  | some _, none => (-3, rw)
  | none, _ => (-3, rw)
def vGone (A : AS) (rw : List Int32) (x y : Int32) : Int32 × List Int32 := match goneA x y A with
  | none => (-1, rw)
  | some q => vG2 A rw (sOuV A none none none) (sOuV A none q.1 q.2)
theorem sMov_lt {A : AS} (w : WF A) (S T : Nat) : sMov A S T < 2 ^ 7 := by
  have hn := w.1.1
  unfold sMov
  refine nfo_inv (fun _ m => m < 2 ^ 7) (aNp A) 0 (by decide) ?_ _ (Nat.le_refl _)
  intro i t hi ht
  split
  · exact ht
  · exact Nat.or_lt_two_pow ht (Nat.pow_lt_pow_right (by decide) (by omega))
def Wgn (a k : Nat) : Prop := Wop a k ∨ (a = 98 ∧ (k = 60 ∨ k = 61))
theorem e_gone_1 {A : AS} {h : jHp} (k : RMK A h) {S T : Nat} (hS : S < 2 ^ 31) (hT : T < 2 ^ 31) (x y : Value) : ∃ v, s_loop 1 2 lc_M_gone_1 lb_M_gone_1 lu_M_gone_1 ([.ref 98, x, y, .int (nI S), .int (nI T), .int (nI 0), .int (nI 0)], h) = some (.inl 0, ([.ref 98, x, y, .int (nI S), .int (nI T), .int (nI (sMov A S T)), v], h)) := by
  have hs := k.1
  have w := k.2.1
  have hn := w.1.1
  have q0 := k.2.2.1.1
  have hX := loop_n (lb := 1) (lc := 2) (c := lc_M_gone_1) (b := lb_M_gone_1) (u := lu_M_gone_1) (aNp A) (fun i (m : Nat) => (([.ref 98, x, y, .int (nI S), .int (nI T), .int (nI m), .int (nI i)], h) : jS)) (fun p m => if sBnd A S p = sBnd A T p then m else m ||| 2 ^ p) (fun _ _ => True)
    (fun i m hi _ => by
      have e1 := e_M_bondOf k hS (p := i) (by omega)
      have e2 := e_M_bondOf k hT (p := i) (by omega)
      have hcmp : (oI (sBnd A S i) = oI (sBnd A T i)) = (sBnd A S i = sBnd A T i) := propext (oI_inj (sBnd_31 w) (sBnd_31 w))
      refine ⟨trivial, ?_⟩
      by_cases hc : sBnd A S i = sBnd A T i
      · rw [hc] at e1
        simp (disch := first | assumption | omega) [lstp, lc_M_gone_1, lb_M_gone_1, lu_M_gone_1, j_meth, j_out, j_rok, j_pad, lg_sl, s_seq_w, isN_inl, isN_inr, s_if, jb, x_c, x_iloc, x_aloc, x_lloc, x_bin, x_un, o_add, o_sub, o_mul, o_and, o_or, o_xor, o_shl, o_shr, o_ushr, o_max, o_min, o_i2b, o_i2c, o_i2l, o_l2i, x_fld, j_fget, x_idx, j_aget, x_len, j_alen, x_ofb, x_ite, xs_nil, xs_cons, x_callv, x_calls, s_callv, s_calls, j_recv, j_ret, j_retv, b_cmp, b_and, b_or, b_not, b_ofi, b_ite, b_true, s_skip, s_set, j_ty, j_lset, j_kill, s_inc, s_fput, j_fput, s_fop, s_aput, j_aput, j_nar, s_aop, s_ret, s_retv, s_go, s_pop, x_linc, x_finc, Value.category, if_icmp.holds, List.flatMap_cons, List.flatMap_nil, List.length_cons, List.length_append, List.length_nil, List.set_cons_succ, List.set_cons_zero, List.getElem?_cons_succ, List.getElem?_cons_zero, List.replicate, ite_and', ite_or', ite_int', nI_leI, nI_ltI, nI_eq, nI_add, nI_1, pk_mul, nI_clamp, n_in', nI_pos', nI_pos, n_m1e, n_01, n_10, sT_98, sT_99, sT_100, sT_101, sT_102, sT_103, sT_104, sT_105, sT_106, sT_107, sT_108, sT_109, sT_110, sT_111, sT_112, sT_113, sT_114, sT_115, sT_116, sT_117, sT_118, sT_119, sT_120, sT_121, sT_122, sT_123, sT_124, sT_125, sT_126, sT_127, sT_128, sT_129, sT_130, sT_131, sT_132, sT_133, sT_134, sT_135, sT_136, sT_137, sT_138, sT_139, sT_140, sR_98_1, sR_98_4, sR_98_5, sR_98_6, sR_98_7, sR_98_8, sR_98_9, sR_98_10, sR_98_12, sR_98_13, sR_98_14, sR_98_15, sR_98_16, sR_98_17, sR_98_18, sR_98_19, sR_98_20, sR_98_21, sR_98_22, sR_98_23, sR_98_24, sR_98_25, sR_98_26, sR_98_27, sR_98_28, sR_98_29, sR_98_31, sR_98_34, sR_98_35, sR_98_36, sR_98_42, sR_98_44, sR_98_45, sR_98_47, sR_98_49, sR_98_51, sR_98_56, sR_98_58, sR_98_62, sR_98_65, sR_98_66, sR_98_69, q0, hi, e1, e2, hc]
      · simp (disch := first | assumption | omega) [lstp, lc_M_gone_1, lb_M_gone_1, lu_M_gone_1, j_meth, j_out, j_rok, j_pad, lg_sl, s_seq_w, isN_inl, isN_inr, s_if, jb, x_c, x_iloc, x_aloc, x_lloc, x_bin, x_un, o_add, o_sub, o_mul, o_and, o_or, o_xor, o_shl, o_shr, o_ushr, o_max, o_min, o_i2b, o_i2c, o_i2l, o_l2i, x_fld, j_fget, x_idx, j_aget, x_len, j_alen, x_ofb, x_ite, xs_nil, xs_cons, x_callv, x_calls, s_callv, s_calls, j_recv, j_ret, j_retv, b_cmp, b_and, b_or, b_not, b_ofi, b_ite, b_true, s_skip, s_set, j_ty, j_lset, j_kill, s_inc, s_fput, j_fput, s_fop, s_aput, j_aput, j_nar, s_aop, s_ret, s_retv, s_go, s_pop, x_linc, x_finc, Value.category, if_icmp.holds, List.flatMap_cons, List.flatMap_nil, List.length_cons, List.length_append, List.length_nil, List.set_cons_succ, List.set_cons_zero, List.getElem?_cons_succ, List.getElem?_cons_zero, List.replicate, ite_and', ite_or', ite_int', nI_leI, nI_ltI, nI_eq, nI_add, nI_1, pk_mul, nI_clamp, n_in', nI_pos', nI_pos, n_m1e, n_01, n_10, sT_98, sT_99, sT_100, sT_101, sT_102, sT_103, sT_104, sT_105, sT_106, sT_107, sT_108, sT_109, sT_110, sT_111, sT_112, sT_113, sT_114, sT_115, sT_116, sT_117, sT_118, sT_119, sT_120, sT_121, sT_122, sT_123, sT_124, sT_125, sT_126, sT_127, sT_128, sT_129, sT_130, sT_131, sT_132, sT_133, sT_134, sT_135, sT_136, sT_137, sT_138, sT_139, sT_140, sR_98_1, sR_98_4, sR_98_5, sR_98_6, sR_98_7, sR_98_8, sR_98_9, sR_98_10, sR_98_12, sR_98_13, sR_98_14, sR_98_15, sR_98_16, sR_98_17, sR_98_18, sR_98_19, sR_98_20, sR_98_21, sR_98_22, sR_98_23, sR_98_24, sR_98_25, sR_98_26, sR_98_27, sR_98_28, sR_98_29, sR_98_31, sR_98_34, sR_98_35, sR_98_36, sR_98_42, sR_98_44, sR_98_45, sR_98_47, sR_98_49, sR_98_51, sR_98_56, sR_98_58, sR_98_62, sR_98_65, sR_98_66, sR_98_69, q0, hi, e1, e2, hcmp, hc, n_bk, n_or])
    (fun m _ => by simp (disch := first | assumption | omega) [lstp, lc_M_gone_1, lb_M_gone_1, lu_M_gone_1, j_meth, j_out, j_rok, j_pad, lg_sl, s_seq_w, isN_inl, isN_inr, s_if, jb, x_c, x_iloc, x_aloc, x_lloc, x_bin, x_un, o_add, o_sub, o_mul, o_and, o_or, o_xor, o_shl, o_shr, o_ushr, o_max, o_min, o_i2b, o_i2c, o_i2l, o_l2i, x_fld, j_fget, x_idx, j_aget, x_len, j_alen, x_ofb, x_ite, xs_nil, xs_cons, x_callv, x_calls, s_callv, s_calls, j_recv, j_ret, j_retv, b_cmp, b_and, b_or, b_not, b_ofi, b_ite, b_true, s_skip, s_set, j_ty, j_lset, j_kill, s_inc, s_fput, j_fput, s_fop, s_aput, j_aput, j_nar, s_aop, s_ret, s_retv, s_go, s_pop, x_linc, x_finc, Value.category, if_icmp.holds, List.flatMap_cons, List.flatMap_nil, List.length_cons, List.length_append, List.length_nil, List.set_cons_succ, List.set_cons_zero, List.getElem?_cons_succ, List.getElem?_cons_zero, List.replicate, ite_and', ite_or', ite_int', nI_leI, nI_ltI, nI_eq, nI_add, nI_1, pk_mul, nI_clamp, n_in', nI_pos', nI_pos, n_m1e, n_01, n_10, sT_98, sT_99, sT_100, sT_101, sT_102, sT_103, sT_104, sT_105, sT_106, sT_107, sT_108, sT_109, sT_110, sT_111, sT_112, sT_113, sT_114, sT_115, sT_116, sT_117, sT_118, sT_119, sT_120, sT_121, sT_122, sT_123, sT_124, sT_125, sT_126, sT_127, sT_128, sT_129, sT_130, sT_131, sT_132, sT_133, sT_134, sT_135, sT_136, sT_137, sT_138, sT_139, sT_140, sR_98_1, sR_98_4, sR_98_5, sR_98_6, sR_98_7, sR_98_8, sR_98_9, sR_98_10, sR_98_12, sR_98_13, sR_98_14, sR_98_15, sR_98_16, sR_98_17, sR_98_18, sR_98_19, sR_98_20, sR_98_21, sR_98_22, sR_98_23, sR_98_24, sR_98_25, sR_98_26, sR_98_27, sR_98_28, sR_98_29, sR_98_31, sR_98_34, sR_98_35, sR_98_36, sR_98_42, sR_98_44, sR_98_45, sR_98_47, sR_98_49, sR_98_51, sR_98_56, sR_98_58, sR_98_62, sR_98_65, sR_98_66, sR_98_69, q0]) 0 trivial
  exact ⟨_, hX⟩
