def cpOk (A : AS) (x y : Int32) : Prop := j_in x (aNp A) = true ∧ j_in y (aNp A) = true ∧ x ≠ y ∧ sCpl A x.toNatClampNeg = none ∧ sCpl A y.toNatClampNeg = none ∧ aNc A ≠ 2
noncomputable def vCouple (A : AS) (x y : Int32) : Int32 × AS := @ite _ (cpOk A x y) (Classical.propDecidable _) (nI (aNc A), aCoup A x.toNatClampNeg y.toNatClampNeg) (-1, A)
theorem sCpl_none {A : AS} {p : Nat} : sCpl A p = none ↔ ∀ c, c < aNc A → aC1 A c ≠ p ∧ aC2 A c ≠ p := by
  constructor
  · intro h c hc
    have := fst1_none h c hc
    simpa using this
  · intro h
    refine fst1_no fun c hc => ?_
    have := h c hc
    simp [this.1, this.2]
theorem WF_coup {A : AS} (w : WF A) {a b : Nat} (ha : a < aNp A) (hb : b < aNp A) (hne : a ≠ b) (h1 : sCpl A a = none) (h2 : sCpl A b = none) (h3 : aNc A ≠ 2) : WF (aCoup A a b) := by
  have g1 := sCpl_none.mp h1
  have g2 := sCpl_none.mp h2
  obtain ⟨w1, w2, w3, w4, ⟨w5, w5', w5a, w5b⟩, w6, w7⟩ := w
  refine ⟨w1, w2, w3, w4, ⟨by show aNc A + 1 ≤ 2; omega, fun c hc => ?_, fun c d hc hd hcd => ?_, fun c => ?_⟩, w6, w7⟩
  · have hc' : c < aNc A + 1 := hc
    show updN (aC1 A) (aNc A) a c < aNp A ∧ updN (aC2 A) (aNc A) b c < aNp A ∧ updN (aC1 A) (aNc A) a c ≠ updN (aC2 A) (aNc A) b c
    by_cases e : c = aNc A
    · rw [e, updN_eq, updN_eq]; exact ⟨ha, hb, hne⟩
    · rw [updN_ne _ _ e, updN_ne _ _ e]; exact w5' c (by omega)
  · have hc' : c < aNc A + 1 := hc
    have hd' : d < aNc A + 1 := hd
    show updN (aC1 A) (aNc A) a c ≠ updN (aC1 A) (aNc A) a d ∧ updN (aC1 A) (aNc A) a c ≠ updN (aC2 A) (aNc A) b d ∧ updN (aC2 A) (aNc A) b c ≠ updN (aC2 A) (aNc A) b d
    by_cases e : c = aNc A
    · have e2 : d ≠ aNc A := by omega
      rw [e, updN_eq, updN_eq, updN_ne _ _ e2, updN_ne _ _ e2]
      have q1 := g1 d (by omega)
      have q2 := g2 d (by omega)
      exact ⟨q1.1.symm, q1.2.symm, q2.2.symm⟩
    · by_cases e2 : d = aNc A
      · rw [e2, updN_eq, updN_eq, updN_ne _ _ e, updN_ne _ _ e]
        have q1 := g1 c (by omega)
        have q2 := g2 c (by omega)
        exact ⟨q1.1, q2.1, q2.2⟩
      · rw [updN_ne _ _ e, updN_ne _ _ e, updN_ne _ _ e2, updN_ne _ _ e2]
        exact w5a c d (by omega) (by omega) hcd
  · obtain ⟨p1, p2, p3, p4⟩ := w5b c
    refine ⟨fun q => p1 (by have q' : aNc A + 1 ≤ c := q; omega), p2, p3, fun q hq => ?_⟩
    obtain ⟨x1, x2, x3⟩ := p4 q hq
    have hcl : c < aNc A := Classical.byContradiction fun z => by
      have hq' : q ∈ aPl A c := hq
      rw [p1 (by omega)] at hq'
      cases hq'
    refine ⟨x1, fun y hy => ?_, fun y hy => ?_⟩
    · show y < aNb A ∧ aPe A y = updN (aC1 A) (aNc A) a c
      rw [updN_ne _ _ (by omega)]; exact x2 y hy
    · show y < aNb A ∧ aPe A y = updN (aC2 A) (aNc A) b c
      rw [updN_ne _ _ (by omega)]; exact x3 y hy
theorem o_M_couple {A : AS} {tx : List Nat} {rw : List Int32} {h : jHp} (r : RMX A tx rw h) (x y : Int32) : ∃ h', f_M_couple [.ref 98, .int x, .int y] h = some (some (.int (vCouple A x y).1), h') ∧ RMX (vCouple A x y).2 tx rw h' ∧ Fr WM h h' := by
  have hs := r.1.1
  have w := r.1.2.1
  have hn := w.1.1
  have hnc := w.2.2.2.2.1.1
  have m0 := op_33 r
  have r0 := RMX_33 r (nI 0)
  have hs0 := r0.1.1
  have ex := e_M_isPerson hs0 w r0.1.2.2.1 x
  have ey := e_M_isPerson hs0 w r0.1.2.2.1 y
  have q11 := r0.1.2.2.2.2.2.1.1
  have f0 : Fr W33 h (hSetI h 98 33 (nI 0)) := Fr_set _ ⟨rfl, rfl⟩
  have k0 := r0.1
  generalize hh0 : hSetI h 98 33 (nI 0) = h0 at *
  have bad : ¬ cpOk A x y → f_M_couple [.ref 98, .int x, .int y] h = some (some (.int (-1)), h0) → ∃ h', f_M_couple [.ref 98, .int x, .int y] h = some (some (.int (vCouple A x y).1), h') ∧ RMX (vCouple A x y).2 tx rw h' ∧ Fr WM h h' := by
    intro hb he
    have hv : vCouple A x y = (-1, A) := if_neg hb
    rw [hv]
    exact ⟨h0, he, op_fin r m0 r0.2.2.2.1⟩
  by_cases hx : j_in x (aNp A) = true
  case neg =>
    rw [if_neg hx] at ex
    exact bad (fun q => hx q.1) (by simp (disch := first | assumption | omega) [f_M_couple, body_M_couple, j_meth, j_out, j_rok, j_pad, lg_sl, s_seq_w, isN_inl, isN_inr, s_if, jb, x_c, x_iloc, x_aloc, x_lloc, x_bin, x_un, o_add, o_sub, o_mul, o_and, o_or, o_xor, o_shl, o_shr, o_ushr, o_max, o_min, o_i2b, o_i2c, o_i2l, o_l2i, x_fld, j_fget, x_idx, j_aget, x_len, j_alen, x_ofb, x_ite, xs_nil, xs_cons, x_callv, x_calls, s_callv, s_calls, j_recv, j_ret, j_retv, b_cmp, b_and, b_or, b_not, b_ofi, b_ite, b_true, s_skip, s_set, j_ty, j_lset, j_kill, s_inc, s_fput, j_fput, s_fop, s_aput, j_aput, j_nar, s_aop, s_ret, s_retv, s_go, s_pop, x_linc, x_finc, Value.category, if_icmp.holds, List.flatMap_cons, List.flatMap_nil, List.length_cons, List.length_append, List.length_nil, List.set_cons_succ, List.set_cons_zero, List.getElem?_cons_succ, List.getElem?_cons_zero, List.replicate, ite_and', ite_or', ite_int', nI_leI, nI_ltI, nI_eq, nI_add, nI_1, pk_mul, nI_clamp, n_in', nI_pos', nI_pos, n_m1e, n_01, n_10, sT_98, sT_99, sT_100, sT_101, sT_102, sT_103, sT_104, sT_105, sT_106, sT_107, sT_108, sT_109, sT_110, sT_111, sT_112, sT_113, sT_114, sT_115, sT_116, sT_117, sT_118, sT_119, sT_120, sT_121, sT_122, sT_123, sT_124, sT_125, sT_126, sT_127, sT_128, sT_129, sT_130, sT_131, sT_132, sT_133, sT_134, sT_135, sT_136, sT_137, sT_138, sT_139, sT_140, sR_98_1, sR_98_4, sR_98_5, sR_98_6, sR_98_7, sR_98_8, sR_98_9, sR_98_10, sR_98_12, sR_98_13, sR_98_14, sR_98_15, sR_98_16, sR_98_17, sR_98_18, sR_98_19, sR_98_20, sR_98_21, sR_98_22, sR_98_23, sR_98_24, sR_98_25, sR_98_26, sR_98_27, sR_98_28, sR_98_29, sR_98_31, sR_98_34, sR_98_35, sR_98_36, sR_98_42, sR_98_44, sR_98_45, sR_98_47, sR_98_49, sR_98_51, sR_98_56, sR_98_58, sR_98_62, sR_98_65, sR_98_66, sR_98_69, hh0, ex])
  rw [if_pos hx] at ex
  by_cases hy : j_in y (aNp A) = true
  case neg =>
    rw [if_neg hy] at ey
    exact bad (fun q => hy q.2.1) (by simp (disch := first | assumption | omega) [f_M_couple, body_M_couple, j_meth, j_out, j_rok, j_pad, lg_sl, s_seq_w, isN_inl, isN_inr, s_if, jb, x_c, x_iloc, x_aloc, x_lloc, x_bin, x_un, o_add, o_sub, o_mul, o_and, o_or, o_xor, o_shl, o_shr, o_ushr, o_max, o_min, o_i2b, o_i2c, o_i2l, o_l2i, x_fld, j_fget, x_idx, j_aget, x_len, j_alen, x_ofb, x_ite, xs_nil, xs_cons, x_callv, x_calls, s_callv, s_calls, j_recv, j_ret, j_retv, b_cmp, b_and, b_or, b_not, b_ofi, b_ite, b_true, s_skip, s_set, j_ty, j_lset, j_kill, s_inc, s_fput, j_fput, s_fop, s_aput, j_aput, j_nar, s_aop, s_ret, s_retv, s_go, s_pop, x_linc, x_finc, Value.category, if_icmp.holds, List.flatMap_cons, List.flatMap_nil, List.length_cons, List.length_append, List.length_nil, List.set_cons_succ, List.set_cons_zero, List.getElem?_cons_succ, List.getElem?_cons_zero, List.replicate, ite_and', ite_or', ite_int', nI_leI, nI_ltI, nI_eq, nI_add, nI_1, pk_mul, nI_clamp, n_in', nI_pos', nI_pos, n_m1e, n_01, n_10, sT_98, sT_99, sT_100, sT_101, sT_102, sT_103, sT_104, sT_105, sT_106, sT_107, sT_108, sT_109, sT_110, sT_111, sT_112, sT_113, sT_114, sT_115, sT_116, sT_117, sT_118, sT_119, sT_120, sT_121, sT_122, sT_123, sT_124, sT_125, sT_126, sT_127, sT_128, sT_129, sT_130, sT_131, sT_132, sT_133, sT_134, sT_135, sT_136, sT_137, sT_138, sT_139, sT_140, sR_98_1, sR_98_4, sR_98_5, sR_98_6, sR_98_7, sR_98_8, sR_98_9, sR_98_10, sR_98_12, sR_98_13, sR_98_14, sR_98_15, sR_98_16, sR_98_17, sR_98_18, sR_98_19, sR_98_20, sR_98_21, sR_98_22, sR_98_23, sR_98_24, sR_98_25, sR_98_26, sR_98_27, sR_98_28, sR_98_29, sR_98_31, sR_98_34, sR_98_35, sR_98_36, sR_98_42, sR_98_44, sR_98_45, sR_98_47, sR_98_49, sR_98_51, sR_98_56, sR_98_58, sR_98_62, sR_98_65, sR_98_66, sR_98_69, hh0, ex, ey])
  rw [if_pos hy] at ey
  by_cases hxy : x = y
  · subst hxy
    exact bad (fun q => q.2.2.1 rfl) (by simp (disch := first | assumption | omega) [f_M_couple, body_M_couple, j_meth, j_out, j_rok, j_pad, lg_sl, s_seq_w, isN_inl, isN_inr, s_if, jb, x_c, x_iloc, x_aloc, x_lloc, x_bin, x_un, o_add, o_sub, o_mul, o_and, o_or, o_xor, o_shl, o_shr, o_ushr, o_max, o_min, o_i2b, o_i2c, o_i2l, o_l2i, x_fld, j_fget, x_idx, j_aget, x_len, j_alen, x_ofb, x_ite, xs_nil, xs_cons, x_callv, x_calls, s_callv, s_calls, j_recv, j_ret, j_retv, b_cmp, b_and, b_or, b_not, b_ofi, b_ite, b_true, s_skip, s_set, j_ty, j_lset, j_kill, s_inc, s_fput, j_fput, s_fop, s_aput, j_aput, j_nar, s_aop, s_ret, s_retv, s_go, s_pop, x_linc, x_finc, Value.category, if_icmp.holds, List.flatMap_cons, List.flatMap_nil, List.length_cons, List.length_append, List.length_nil, List.set_cons_succ, List.set_cons_zero, List.getElem?_cons_succ, List.getElem?_cons_zero, List.replicate, ite_and', ite_or', ite_int', nI_leI, nI_ltI, nI_eq, nI_add, nI_1, pk_mul, nI_clamp, n_in', nI_pos', nI_pos, n_m1e, n_01, n_10, sT_98, sT_99, sT_100, sT_101, sT_102, sT_103, sT_104, sT_105, sT_106, sT_107, sT_108, sT_109, sT_110, sT_111, sT_112, sT_113, sT_114, sT_115, sT_116, sT_117, sT_118, sT_119, sT_120, sT_121, sT_122, sT_123, sT_124, sT_125, sT_126, sT_127, sT_128, sT_129, sT_130, sT_131, sT_132, sT_133, sT_134, sT_135, sT_136, sT_137, sT_138, sT_139, sT_140, sR_98_1, sR_98_4, sR_98_5, sR_98_6, sR_98_7, sR_98_8, sR_98_9, sR_98_10, sR_98_12, sR_98_13, sR_98_14, sR_98_15, sR_98_16, sR_98_17, sR_98_18, sR_98_19, sR_98_20, sR_98_21, sR_98_22, sR_98_23, sR_98_24, sR_98_25, sR_98_26, sR_98_27, sR_98_28, sR_98_29, sR_98_31, sR_98_34, sR_98_35, sR_98_36, sR_98_42, sR_98_44, sR_98_45, sR_98_47, sR_98_49, sR_98_51, sR_98_56, sR_98_58, sR_98_62, sR_98_65, sR_98_66, sR_98_69, hh0, ex])
  obtain ⟨a, ha, rfl⟩ := j_in_ex hx (by omega)
  obtain ⟨b, hb, rfl⟩ := j_in_ex hy (by omega)
  have ca : (nI a).toNatClampNeg = a := nI_clamp (by omega)
  have cb : (nI b).toNatClampNeg = b := nI_clamp (by omega)
  have hab : ¬ a = b := fun q => hxy (by rw [q])
  have ea := e_M_coupleOf k0 (p := a) (by omega)
  have eb := e_M_coupleOf k0 (p := b) (by omega)
  by_cases h1 : sCpl A a = none
  case neg =>
    have h1' : ¬ oI (sCpl A a) = -1 := fun q => h1 ((oI_m1 (sCpl_31 w)).mp q)
    exact bad (fun q => h1 (by have := q.2.2.2.1; rw [ca] at this; exact this)) (by simp (disch := first | assumption | omega) [f_M_couple, body_M_couple, j_meth, j_out, j_rok, j_pad, lg_sl, s_seq_w, isN_inl, isN_inr, s_if, jb, x_c, x_iloc, x_aloc, x_lloc, x_bin, x_un, o_add, o_sub, o_mul, o_and, o_or, o_xor, o_shl, o_shr, o_ushr, o_max, o_min, o_i2b, o_i2c, o_i2l, o_l2i, x_fld, j_fget, x_idx, j_aget, x_len, j_alen, x_ofb, x_ite, xs_nil, xs_cons, x_callv, x_calls, s_callv, s_calls, j_recv, j_ret, j_retv, b_cmp, b_and, b_or, b_not, b_ofi, b_ite, b_true, s_skip, s_set, j_ty, j_lset, j_kill, s_inc, s_fput, j_fput, s_fop, s_aput, j_aput, j_nar, s_aop, s_ret, s_retv, s_go, s_pop, x_linc, x_finc, Value.category, if_icmp.holds, List.flatMap_cons, List.flatMap_nil, List.length_cons, List.length_append, List.length_nil, List.set_cons_succ, List.set_cons_zero, List.getElem?_cons_succ, List.getElem?_cons_zero, List.replicate, ite_and', ite_or', ite_int', nI_leI, nI_ltI, nI_eq, nI_add, nI_1, pk_mul, nI_clamp, n_in', nI_pos', nI_pos, n_m1e, n_01, n_10, sT_98, sT_99, sT_100, sT_101, sT_102, sT_103, sT_104, sT_105, sT_106, sT_107, sT_108, sT_109, sT_110, sT_111, sT_112, sT_113, sT_114, sT_115, sT_116, sT_117, sT_118, sT_119, sT_120, sT_121, sT_122, sT_123, sT_124, sT_125, sT_126, sT_127, sT_128, sT_129, sT_130, sT_131, sT_132, sT_133, sT_134, sT_135, sT_136, sT_137, sT_138, sT_139, sT_140, sR_98_1, sR_98_4, sR_98_5, sR_98_6, sR_98_7, sR_98_8, sR_98_9, sR_98_10, sR_98_12, sR_98_13, sR_98_14, sR_98_15, sR_98_16, sR_98_17, sR_98_18, sR_98_19, sR_98_20, sR_98_21, sR_98_22, sR_98_23, sR_98_24, sR_98_25, sR_98_26, sR_98_27, sR_98_28, sR_98_29, sR_98_31, sR_98_34, sR_98_35, sR_98_36, sR_98_42, sR_98_44, sR_98_45, sR_98_47, sR_98_49, sR_98_51, sR_98_56, sR_98_58, sR_98_62, sR_98_65, sR_98_66, sR_98_69, hh0, ex, ey, hab, ea, h1'])
  rw [h1, oI_n] at ea
  by_cases h2 : sCpl A b = none
  case neg =>
    have h2' : ¬ oI (sCpl A b) = -1 := fun q => h2 ((oI_m1 (sCpl_31 w)).mp q)
    exact bad (fun q => h2 (by have := q.2.2.2.2.1; rw [cb] at this; exact this)) (by simp (disch := first | assumption | omega) [f_M_couple, body_M_couple, j_meth, j_out, j_rok, j_pad, lg_sl, s_seq_w, isN_inl, isN_inr, s_if, jb, x_c, x_iloc, x_aloc, x_lloc, x_bin, x_un, o_add, o_sub, o_mul, o_and, o_or, o_xor, o_shl, o_shr, o_ushr, o_max, o_min, o_i2b, o_i2c, o_i2l, o_l2i, x_fld, j_fget, x_idx, j_aget, x_len, j_alen, x_ofb, x_ite, xs_nil, xs_cons, x_callv, x_calls, s_callv, s_calls, j_recv, j_ret, j_retv, b_cmp, b_and, b_or, b_not, b_ofi, b_ite, b_true, s_skip, s_set, j_ty, j_lset, j_kill, s_inc, s_fput, j_fput, s_fop, s_aput, j_aput, j_nar, s_aop, s_ret, s_retv, s_go, s_pop, x_linc, x_finc, Value.category, if_icmp.holds, List.flatMap_cons, List.flatMap_nil, List.length_cons, List.length_append, List.length_nil, List.set_cons_succ, List.set_cons_zero, List.getElem?_cons_succ, List.getElem?_cons_zero, List.replicate, ite_and', ite_or', ite_int', nI_leI, nI_ltI, nI_eq, nI_add, nI_1, pk_mul, nI_clamp, n_in', nI_pos', nI_pos, n_m1e, n_01, n_10, sT_98, sT_99, sT_100, sT_101, sT_102, sT_103, sT_104, sT_105, sT_106, sT_107, sT_108, sT_109, sT_110, sT_111, sT_112, sT_113, sT_114, sT_115, sT_116, sT_117, sT_118, sT_119, sT_120, sT_121, sT_122, sT_123, sT_124, sT_125, sT_126, sT_127, sT_128, sT_129, sT_130, sT_131, sT_132, sT_133, sT_134, sT_135, sT_136, sT_137, sT_138, sT_139, sT_140, sR_98_1, sR_98_4, sR_98_5, sR_98_6, sR_98_7, sR_98_8, sR_98_9, sR_98_10, sR_98_12, sR_98_13, sR_98_14, sR_98_15, sR_98_16, sR_98_17, sR_98_18, sR_98_19, sR_98_20, sR_98_21, sR_98_22, sR_98_23, sR_98_24, sR_98_25, sR_98_26, sR_98_27, sR_98_28, sR_98_29, sR_98_31, sR_98_34, sR_98_35, sR_98_36, sR_98_42, sR_98_44, sR_98_45, sR_98_47, sR_98_49, sR_98_51, sR_98_56, sR_98_58, sR_98_62, sR_98_65, sR_98_66, sR_98_69, hh0, ex, ey, hab, ea, eb, h2'])
  rw [h2, oI_n] at eb
  by_cases h3 : aNc A = 2
  · rw [h3] at q11
    exact bad (fun q => q.2.2.2.2.2 h3) (by simp (disch := first | assumption | omega) [f_M_couple, body_M_couple, j_meth, j_out, j_rok, j_pad, lg_sl, s_seq_w, isN_inl, isN_inr, s_if, jb, x_c, x_iloc, x_aloc, x_lloc, x_bin, x_un, o_add, o_sub, o_mul, o_and, o_or, o_xor, o_shl, o_shr, o_ushr, o_max, o_min, o_i2b, o_i2c, o_i2l, o_l2i, x_fld, j_fget, x_idx, j_aget, x_len, j_alen, x_ofb, x_ite, xs_nil, xs_cons, x_callv, x_calls, s_callv, s_calls, j_recv, j_ret, j_retv, b_cmp, b_and, b_or, b_not, b_ofi, b_ite, b_true, s_skip, s_set, j_ty, j_lset, j_kill, s_inc, s_fput, j_fput, s_fop, s_aput, j_aput, j_nar, s_aop, s_ret, s_retv, s_go, s_pop, x_linc, x_finc, Value.category, if_icmp.holds, List.flatMap_cons, List.flatMap_nil, List.length_cons, List.length_append, List.length_nil, List.set_cons_succ, List.set_cons_zero, List.getElem?_cons_succ, List.getElem?_cons_zero, List.replicate, ite_and', ite_or', ite_int', nI_leI, nI_ltI, nI_eq, nI_add, nI_1, pk_mul, nI_clamp, n_in', nI_pos', nI_pos, n_m1e, n_01, n_10, sT_98, sT_99, sT_100, sT_101, sT_102, sT_103, sT_104, sT_105, sT_106, sT_107, sT_108, sT_109, sT_110, sT_111, sT_112, sT_113, sT_114, sT_115, sT_116, sT_117, sT_118, sT_119, sT_120, sT_121, sT_122, sT_123, sT_124, sT_125, sT_126, sT_127, sT_128, sT_129, sT_130, sT_131, sT_132, sT_133, sT_134, sT_135, sT_136, sT_137, sT_138, sT_139, sT_140, sR_98_1, sR_98_4, sR_98_5, sR_98_6, sR_98_7, sR_98_8, sR_98_9, sR_98_10, sR_98_12, sR_98_13, sR_98_14, sR_98_15, sR_98_16, sR_98_17, sR_98_18, sR_98_19, sR_98_20, sR_98_21, sR_98_22, sR_98_23, sR_98_24, sR_98_25, sR_98_26, sR_98_27, sR_98_28, sR_98_29, sR_98_31, sR_98_34, sR_98_35, sR_98_36, sR_98_42, sR_98_44, sR_98_45, sR_98_47, sR_98_49, sR_98_51, sR_98_56, sR_98_58, sR_98_62, sR_98_65, sR_98_66, sR_98_69, hh0, ex, ey, hab, ea, eb, q11])
  have hv : vCouple A (nI a) (nI b) = (nI (aNc A), aCoup A a b) := by
    have : cpOk A (nI a) (nI b) := ⟨hx, hy, hxy, by rw [ca]; exact h1, by rw [cb]; exact h2, h3⟩
    unfold vCouple
    rw [if_pos this, ca, cb]
  rw [hv]
  have w' := WF_coup w ha hb hab h1 h2 h3
  have f1 : Fr (fun u k => (u = 107 ∧ k = aNc A) ∨ (u = 108 ∧ k = aNc A) ∨ (u = 98 ∧ k = 11)) h0 (hSetI (hSetI (hSetI h0 107 (aNc A) (nI a)) 108 (aNc A) (nI b)) 98 11 (nI (aNc A + 1))) := Fr_trans (Fr_trans (Fr_set _ (Or.inl ⟨rfl, rfl⟩)) (Fr_set _ (Or.inr (Or.inl ⟨rfl, rfl⟩)))) (Fr_set _ (Or.inr (Or.inr ⟨rfl, rfl⟩)))
  have c1 : hI (hSetI (hSetI (hSetI h0 107 (aNc A) (nI a)) 108 (aNc A) (nI b)) 98 11 (nI (aNc A + 1))) 98 11 = nI (aNc A + 1) := by rw [hI_setI, if_pos ⟨rfl, rfl⟩]
  have c2 : hI (hSetI (hSetI (hSetI h0 107 (aNc A) (nI a)) 108 (aNc A) (nI b)) 98 11 (nI (aNc A + 1))) 107 (aNc A) = nI a := by rw [hI_setI, if_neg (by omega), hI_setI, if_neg (by omega), hI_setI, if_pos ⟨rfl, rfl⟩]
  have c3 : hI (hSetI (hSetI (hSetI h0 107 (aNc A) (nI a)) 108 (aNc A) (nI b)) 98 11 (nI (aNc A + 1))) 108 (aNc A) = nI b := by rw [hI_setI, if_neg (by omega), hI_setI, if_pos ⟨rfl, rfl⟩]
  have d1 : hI (hSetI h0 107 (aNc A) (nI a)) 98 11 = nI (aNc A) := by rw [hI_setI, if_neg (by omega)]; exact q11
  have d2 : hI (hSetI (hSetI h0 107 (aNc A) (nI a)) 108 (aNc A) (nI b)) 98 11 = nI (aNc A) := by rw [hI_setI, if_neg (by omega)]; exact d1
  have hs1 : Shape (hSetI h0 107 (aNc A) (nI a)) := Fr_shape (W := fun a k => True) hs0 (Fr_set _ trivial)
  have hs2 : Shape (hSetI (hSetI h0 107 (aNc A) (nI a)) 108 (aNc A) (nI b)) := Fr_shape (W := fun a k => True) hs1 (Fr_set _ trivial)
  have hs3 := Fr_shape hs0 f1
  have hsub : nI (aNc A + 1) - nI 1 = nI (aNc A) := pk_sub (by omega)
  refine ⟨hSetI (hSetI (hSetI h0 107 (aNc A) (nI a)) 108 (aNc A) (nI b)) 98 11 (nI (aNc A + 1)), ?_, ?_⟩
  · have hlt : aNc A < 2 := by omega
    generalize hg1 : hSetI h0 107 (aNc A) (nI a) = k1 at *
    generalize hg2 : hSetI k1 108 (aNc A) (nI b) = k2 at *
    generalize hg3 : hSetI k2 98 11 (nI (aNc A + 1)) = k3 at *
    simp (disch := first | assumption | omega) [f_M_couple, body_M_couple, j_meth, j_out, j_rok, j_pad, lg_sl, s_seq_w, isN_inl, isN_inr, s_if, jb, x_c, x_iloc, x_aloc, x_lloc, x_bin, x_un, o_add, o_sub, o_mul, o_and, o_or, o_xor, o_shl, o_shr, o_ushr, o_max, o_min, o_i2b, o_i2c, o_i2l, o_l2i, x_fld, j_fget, x_idx, j_aget, x_len, j_alen, x_ofb, x_ite, xs_nil, xs_cons, x_callv, x_calls, s_callv, s_calls, j_recv, j_ret, j_retv, b_cmp, b_and, b_or, b_not, b_ofi, b_ite, b_true, s_skip, s_set, j_ty, j_lset, j_kill, s_inc, s_fput, j_fput, s_fop, s_aput, j_aput, j_nar, s_aop, s_ret, s_retv, s_go, s_pop, x_linc, x_finc, Value.category, if_icmp.holds, List.flatMap_cons, List.flatMap_nil, List.length_cons, List.length_append, List.length_nil, List.set_cons_succ, List.set_cons_zero, List.getElem?_cons_succ, List.getElem?_cons_zero, List.replicate, ite_and', ite_or', ite_int', nI_leI, nI_ltI, nI_eq, nI_add, nI_1, pk_mul, nI_clamp, n_in', nI_pos', nI_pos, n_m1e, n_01, n_10, sT_98, sT_99, sT_100, sT_101, sT_102, sT_103, sT_104, sT_105, sT_106, sT_107, sT_108, sT_109, sT_110, sT_111, sT_112, sT_113, sT_114, sT_115, sT_116, sT_117, sT_118, sT_119, sT_120, sT_121, sT_122, sT_123, sT_124, sT_125, sT_126, sT_127, sT_128, sT_129, sT_130, sT_131, sT_132, sT_133, sT_134, sT_135, sT_136, sT_137, sT_138, sT_139, sT_140, sR_98_1, sR_98_4, sR_98_5, sR_98_6, sR_98_7, sR_98_8, sR_98_9, sR_98_10, sR_98_12, sR_98_13, sR_98_14, sR_98_15, sR_98_16, sR_98_17, sR_98_18, sR_98_19, sR_98_20, sR_98_21, sR_98_22, sR_98_23, sR_98_24, sR_98_25, sR_98_26, sR_98_27, sR_98_28, sR_98_29, sR_98_31, sR_98_34, sR_98_35, sR_98_36, sR_98_42, sR_98_44, sR_98_45, sR_98_47, sR_98_49, sR_98_51, sR_98_56, sR_98_58, sR_98_62, sR_98_65, sR_98_66, sR_98_69, hh0, ex, ey, hab, ea, eb, q11, h3, hlt, hg1, d1, hg2, d2, hg3, c1, hsub]
  · generalize hSetI (hSetI (hSetI h0 107 (aNc A) (nI a)) 108 (aNc A) (nI b)) 98 11 (nI (aNc A + 1)) = h2 at *
    obtain ⟨-, -, rp, rb, rl, rc, rch⟩ := k0
    have f2 : Fr (fun u k => W33 u k ∨ (u = 107 ∧ k = aNc A) ∨ (u = 108 ∧ k = aNc A) ∨ (u = 98 ∧ k = 11)) h h2 := Fr_trans (Fr_mono f0 fun a k q => Or.inl q) (Fr_mono f1 fun a k q => Or.inr q)
    refine RMX_new r f2 (by unfold cT W33; intro a k; omega) ⟨hs3, w', RMp_c rp (fun a k q => Fr_I f1 (by omega)), RMb_c rb (fun a k q => Fr_I f1 (by omega)), RMl_c rl (fun a k q => Fr_I f1 (by omega)), ⟨c1, fun c hc => ?_, fun c hc => ?_⟩, RMch_c rch (fun a k q1 q2 => Fr_I f1 (by omega))⟩ (RMT_ag (A := A) w (RMT_fr r0.2.1 f1 (by intro a k q; omega)) rfl fun f hf => ⟨Nat.le_refl _, Nat.le_refl _, fun b _ => ⟨rfl, rfl, rfl, rfl, rfl⟩, fun b h1 h2 => absurd h2 (Nat.not_lt.mpr h1), fun p _ => rfl, rfl⟩)
    · have hc' : c < aNc A + 1 := hc
      show hI h2 107 c = nI (updN (aC1 A) (aNc A) a c) ∧ hI h2 108 c = nI (updN (aC2 A) (aNc A) b c)
      by_cases e : c = aNc A
      · rw [e, updN_eq, updN_eq]; exact ⟨c2, c3⟩
      · rw [updN_ne _ _ e, updN_ne _ _ e, Fr_I f1 (by omega), Fr_I f1 (by omega)]
        exact rc.2.1 c (by omega)
    · exact ⟨by rw [Fr_I f1 (by omega)]; exact (rc.2.2 c hc).1, fun k hk => by rw [Fr_I f1 (by omega), Fr_I f1 (by omega)]; exact (rc.2.2 c hc).2 k hk⟩
-- pair
def iO (x : Int32) : Option Nat := if x = -1 then none else some x.toNatClampNeg
def isOfP (A : AS) (x : Int32) (p : Nat) : Prop := x = -1 ∨ (j_in x (aNb A) = true ∧ aPe A x.toNatClampNeg = p)
theorem isOf_iO {A : AS} (w : WF A) {x : Int32} {p : Nat} (h : isOfP A x p) : x = oI (iO x) ∧ ∀ b, iO x = some b → b < aNb A ∧ aPe A b = p := by
  have h20 := w.2.2.1.1
  rcases h with rfl | ⟨h1, h2⟩
  · exact ⟨rfl, fun b hb => by cases hb⟩
  · obtain ⟨b, hb, rfl⟩ := j_in_ex h1 (by omega)
    rw [nI_clamp (by omega)] at h2
    have : iO (nI b) = some b := by
      unfold iO
      rw [if_neg (by rw [n_m1e (by omega)]; simp), nI_clamp (by omega)]
    rw [this]
    exact ⟨rfl, fun c hc => by cases hc; exact ⟨hb, h2⟩⟩
theorem e_M_isOf {A : AS} {h : jHp} (k : RMK A h) (x : Int32) {p : Nat} (hp : p < 2 ^ 31) : f_M_isOf [.ref 98, .int x, .int (nI p)] h = some (some (.int (@ite _ (isOfP A x p) (Classical.propDecidable _) 1 0)), h) := by
  have hs := k.1
  have w := k.2.1
  have h20 := w.2.2.1.1
  have hn := w.1.1
  have eb := e_M_isBond hs w k.2.2.2.1 x
  unfold isOfP
  by_cases h1 : x = -1
  · rw [if_pos (Or.inl h1)]
    simp (disch := first | assumption | omega) [f_M_isOf, body_M_isOf, j_meth, j_out, j_rok, j_pad, lg_sl, s_seq_w, isN_inl, isN_inr, s_if, jb, x_c, x_iloc, x_aloc, x_lloc, x_bin, x_un, o_add, o_sub, o_mul, o_and, o_or, o_xor, o_shl, o_shr, o_ushr, o_max, o_min, o_i2b, o_i2c, o_i2l, o_l2i, x_fld, j_fget, x_idx, j_aget, x_len, j_alen, x_ofb, x_ite, xs_nil, xs_cons, x_callv, x_calls, s_callv, s_calls, j_recv, j_ret, j_retv, b_cmp, b_and, b_or, b_not, b_ofi, b_ite, b_true, s_skip, s_set, j_ty, j_lset, j_kill, s_inc, s_fput, j_fput, s_fop, s_aput, j_aput, j_nar, s_aop, s_ret, s_retv, s_go, s_pop, x_linc, x_finc, Value.category, if_icmp.holds, List.flatMap_cons, List.flatMap_nil, List.length_cons, List.length_append, List.length_nil, List.set_cons_succ, List.set_cons_zero, List.getElem?_cons_succ, List.getElem?_cons_zero, List.replicate, ite_and', ite_or', ite_int', nI_leI, nI_ltI, nI_eq, nI_add, nI_1, pk_mul, nI_clamp, n_in', nI_pos', nI_pos, n_m1e, n_01, n_10, sT_98, sT_99, sT_100, sT_101, sT_102, sT_103, sT_104, sT_105, sT_106, sT_107, sT_108, sT_109, sT_110, sT_111, sT_112, sT_113, sT_114, sT_115, sT_116, sT_117, sT_118, sT_119, sT_120, sT_121, sT_122, sT_123, sT_124, sT_125, sT_126, sT_127, sT_128, sT_129, sT_130, sT_131, sT_132, sT_133, sT_134, sT_135, sT_136, sT_137, sT_138, sT_139, sT_140, sR_98_1, sR_98_4, sR_98_5, sR_98_6, sR_98_7, sR_98_8, sR_98_9, sR_98_10, sR_98_12, sR_98_13, sR_98_14, sR_98_15, sR_98_16, sR_98_17, sR_98_18, sR_98_19, sR_98_20, sR_98_21, sR_98_22, sR_98_23, sR_98_24, sR_98_25, sR_98_26, sR_98_27, sR_98_28, sR_98_29, sR_98_31, sR_98_34, sR_98_35, sR_98_36, sR_98_42, sR_98_44, sR_98_45, sR_98_47, sR_98_49, sR_98_51, sR_98_56, sR_98_58, sR_98_62, sR_98_65, sR_98_66, sR_98_69, h1]
  by_cases h2 : j_in x (aNb A) = true
  case neg =>
    rw [if_neg (fun q => by rcases q with q | q; exact h1 q; exact h2 q.1)]
    rw [if_neg h2] at eb
    simp (disch := first | assumption | omega) [f_M_isOf, body_M_isOf, j_meth, j_out, j_rok, j_pad, lg_sl, s_seq_w, isN_inl, isN_inr, s_if, jb, x_c, x_iloc, x_aloc, x_lloc, x_bin, x_un, o_add, o_sub, o_mul, o_and, o_or, o_xor, o_shl, o_shr, o_ushr, o_max, o_min, o_i2b, o_i2c, o_i2l, o_l2i, x_fld, j_fget, x_idx, j_aget, x_len, j_alen, x_ofb, x_ite, xs_nil, xs_cons, x_callv, x_calls, s_callv, s_calls, j_recv, j_ret, j_retv, b_cmp, b_and, b_or, b_not, b_ofi, b_ite, b_true, s_skip, s_set, j_ty, j_lset, j_kill, s_inc, s_fput, j_fput, s_fop, s_aput, j_aput, j_nar, s_aop, s_ret, s_retv, s_go, s_pop, x_linc, x_finc, Value.category, if_icmp.holds, List.flatMap_cons, List.flatMap_nil, List.length_cons, List.length_append, List.length_nil, List.set_cons_succ, List.set_cons_zero, List.getElem?_cons_succ, List.getElem?_cons_zero, List.replicate, ite_and', ite_or', ite_int', nI_leI, nI_ltI, nI_eq, nI_add, nI_1, pk_mul, nI_clamp, n_in', nI_pos', nI_pos, n_m1e, n_01, n_10, sT_98, sT_99, sT_100, sT_101, sT_102, sT_103, sT_104, sT_105, sT_106, sT_107, sT_108, sT_109, sT_110, sT_111, sT_112, sT_113, sT_114, sT_115, sT_116, sT_117, sT_118, sT_119, sT_120, sT_121, sT_122, sT_123, sT_124, sT_125, sT_126, sT_127, sT_128, sT_129, sT_130, sT_131, sT_132, sT_133, sT_134, sT_135, sT_136, sT_137, sT_138, sT_139, sT_140, sR_98_1, sR_98_4, sR_98_5, sR_98_6, sR_98_7, sR_98_8, sR_98_9, sR_98_10, sR_98_12, sR_98_13, sR_98_14, sR_98_15, sR_98_16, sR_98_17, sR_98_18, sR_98_19, sR_98_20, sR_98_21, sR_98_22, sR_98_23, sR_98_24, sR_98_25, sR_98_26, sR_98_27, sR_98_28, sR_98_29, sR_98_31, sR_98_34, sR_98_35, sR_98_36, sR_98_42, sR_98_44, sR_98_45, sR_98_47, sR_98_49, sR_98_51, sR_98_56, sR_98_58, sR_98_62, sR_98_65, sR_98_66, sR_98_69, h1, eb]
  rw [if_pos h2] at eb
  obtain ⟨b, hb, rfl⟩ := j_in_ex h2 (by omega)
  obtain ⟨d1, -⟩ := k.2.2.2.1.2.2 b hb
  have hpe := (w.2.2.1.2.1 b hb).1
  have cb : (nI b).toNatClampNeg = b := nI_clamp (by omega)
  by_cases h3 : aPe A b = p
  · rw [if_pos (Or.inr ⟨h2, by rw [cb]; exact h3⟩)]
    simp (disch := first | assumption | omega) [f_M_isOf, body_M_isOf, j_meth, j_out, j_rok, j_pad, lg_sl, s_seq_w, isN_inl, isN_inr, s_if, jb, x_c, x_iloc, x_aloc, x_lloc, x_bin, x_un, o_add, o_sub, o_mul, o_and, o_or, o_xor, o_shl, o_shr, o_ushr, o_max, o_min, o_i2b, o_i2c, o_i2l, o_l2i, x_fld, j_fget, x_idx, j_aget, x_len, j_alen, x_ofb, x_ite, xs_nil, xs_cons, x_callv, x_calls, s_callv, s_calls, j_recv, j_ret, j_retv, b_cmp, b_and, b_or, b_not, b_ofi, b_ite, b_true, s_skip, s_set, j_ty, j_lset, j_kill, s_inc, s_fput, j_fput, s_fop, s_aput, j_aput, j_nar, s_aop, s_ret, s_retv, s_go, s_pop, x_linc, x_finc, Value.category, if_icmp.holds, List.flatMap_cons, List.flatMap_nil, List.length_cons, List.length_append, List.length_nil, List.set_cons_succ, List.set_cons_zero, List.getElem?_cons_succ, List.getElem?_cons_zero, List.replicate, ite_and', ite_or', ite_int', nI_leI, nI_ltI, nI_eq, nI_add, nI_1, pk_mul, nI_clamp, n_in', nI_pos', nI_pos, n_m1e, n_01, n_10, sT_98, sT_99, sT_100, sT_101, sT_102, sT_103, sT_104, sT_105, sT_106, sT_107, sT_108, sT_109, sT_110, sT_111, sT_112, sT_113, sT_114, sT_115, sT_116, sT_117, sT_118, sT_119, sT_120, sT_121, sT_122, sT_123, sT_124, sT_125, sT_126, sT_127, sT_128, sT_129, sT_130, sT_131, sT_132, sT_133, sT_134, sT_135, sT_136, sT_137, sT_138, sT_139, sT_140, sR_98_1, sR_98_4, sR_98_5, sR_98_6, sR_98_7, sR_98_8, sR_98_9, sR_98_10, sR_98_12, sR_98_13, sR_98_14, sR_98_15, sR_98_16, sR_98_17, sR_98_18, sR_98_19, sR_98_20, sR_98_21, sR_98_22, sR_98_23, sR_98_24, sR_98_25, sR_98_26, sR_98_27, sR_98_28, sR_98_29, sR_98_31, sR_98_34, sR_98_35, sR_98_36, sR_98_42, sR_98_44, sR_98_45, sR_98_47, sR_98_49, sR_98_51, sR_98_56, sR_98_58, sR_98_62, sR_98_65, sR_98_66, sR_98_69, h1, eb, d1, h3]
  · rw [if_neg (fun q => by
      rcases q with q | q
      · exact h1 q
      · have := q.2; rw [cb] at this; exact h3 this)]
    simp (disch := first | assumption | omega) [f_M_isOf, body_M_isOf, j_meth, j_out, j_rok, j_pad, lg_sl, s_seq_w, isN_inl, isN_inr, s_if, jb, x_c, x_iloc, x_aloc, x_lloc, x_bin, x_un, o_add, o_sub, o_mul, o_and, o_or, o_xor, o_shl, o_shr, o_ushr, o_max, o_min, o_i2b, o_i2c, o_i2l, o_l2i, x_fld, j_fget, x_idx, j_aget, x_len, j_alen, x_ofb, x_ite, xs_nil, xs_cons, x_callv, x_calls, s_callv, s_calls, j_recv, j_ret, j_retv, b_cmp, b_and, b_or, b_not, b_ofi, b_ite, b_true, s_skip, s_set, j_ty, j_lset, j_kill, s_inc, s_fput, j_fput, s_fop, s_aput, j_aput, j_nar, s_aop, s_ret, s_retv, s_go, s_pop, x_linc, x_finc, Value.category, if_icmp.holds, List.flatMap_cons, List.flatMap_nil, List.length_cons, List.length_append, List.length_nil, List.set_cons_succ, List.set_cons_zero, List.getElem?_cons_succ, List.getElem?_cons_zero, List.replicate, ite_and', ite_or', ite_int', nI_leI, nI_ltI, nI_eq, nI_add, nI_1, pk_mul, nI_clamp, n_in', nI_pos', nI_pos, n_m1e, n_01, n_10, sT_98, sT_99, sT_100, sT_101, sT_102, sT_103, sT_104, sT_105, sT_106, sT_107, sT_108, sT_109, sT_110, sT_111, sT_112, sT_113, sT_114, sT_115, sT_116, sT_117, sT_118, sT_119, sT_120, sT_121, sT_122, sT_123, sT_124, sT_125, sT_126, sT_127, sT_128, sT_129, sT_130, sT_131, sT_132, sT_133, sT_134, sT_135, sT_136, sT_137, sT_138, sT_139, sT_140, sR_98_1, sR_98_4, sR_98_5, sR_98_6, sR_98_7, sR_98_8, sR_98_9, sR_98_10, sR_98_12, sR_98_13, sR_98_14, sR_98_15, sR_98_16, sR_98_17, sR_98_18, sR_98_19, sR_98_20, sR_98_21, sR_98_22, sR_98_23, sR_98_24, sR_98_25, sR_98_26, sR_98_27, sR_98_28, sR_98_29, sR_98_31, sR_98_34, sR_98_35, sR_98_36, sR_98_42, sR_98_44, sR_98_45, sR_98_47, sR_98_49, sR_98_51, sR_98_56, sR_98_58, sR_98_62, sR_98_65, sR_98_66, sR_98_69, h1, eb, d1, h3]
