theorem e_ch_2 {h : jHp} (hs : Shape h) {f n : Nat} {v : Int32} (hf : f < 4) (hn : n ≤ 5) (c43 : hI h 98 43 = nI n) : ∃ h' w, s_loop 3 4 lc_M_choice_2 lb_M_choice_2 lu_M_choice_2 ([.ref 98, .int (nI f), .int v, .int (nI 0)], h) = some (.inl 0, ([.ref 98, .int (nI f), .int v, w], h')) ∧ Fr (fun a k => a = 115 ∧ 5 * f ≤ k ∧ k < 5 * f + 5) h h' ∧ ∀ k, k < n → hI h' 115 (5 * f + k) = hI h 129 k := by
  have hX := loop_wp (lb := 3) (lc := 4) (c := lc_M_choice_2) (b := lb_M_choice_2) (u := lu_M_choice_2) n
    (fun i st => ∃ h', st = ([.ref 98, .int (nI f), .int v, .int (nI i)], h') ∧ Fr (fun a k => a = 115 ∧ 5 * f ≤ k ∧ k < 5 * f + 5) h h' ∧ ∀ k, k < i → hI h' 115 (5 * f + k) = hI h 129 k)
    (fun r => ∃ h' w, r = (.inl 0, ([.ref 98, .int (nI f), .int v, w], h')) ∧ Fr (fun a k => a = 115 ∧ 5 * f ≤ k ∧ k < 5 * f + 5) h h' ∧ ∀ k, k < n → hI h' 115 (5 * f + k) = hI h 129 k)
    ?_ ?_ ([.ref 98, .int (nI f), .int v, .int (nI 0)], h) ⟨h, rfl, Fr_refl _ _, fun k hk => by cases hk⟩
  · obtain ⟨r, e, h', w, rfl, g⟩ := hX
    exact ⟨h', w, e, g⟩
  · rintro i st hi ⟨h1, rfl, f1, g1⟩
    left
    have hs1 := Fr_shape hs f1
    have d43 : hI h1 98 43 = nI n := by rw [Fr_I f1 (by omega)]; exact c43
    have d129 : hI h1 129 i = hI h 129 i := Fr_I f1 (by omega)
    refine ⟨([.ref 98, .int (nI f), .int v, .int (nI (i + 1))], hSetI h1 115 (5 * f + i) (hI h 129 i)), ?_, _, rfl, Fr_trans f1 (Fr_set _ ⟨rfl, by omega, by omega⟩), fun k hk => ?_⟩
    · simp (disch := first | assumption | omega) [lstp, lc_M_choice_2, lb_M_choice_2, lu_M_choice_2, j_meth, j_out, j_rok, j_pad, lg_sl, s_seq_w, isN_inl, isN_inr, s_if, jb, x_c, x_iloc, x_aloc, x_lloc, x_bin, x_un, o_add, o_sub, o_mul, o_and, o_or, o_xor, o_shl, o_shr, o_ushr, o_max, o_min, o_i2b, o_i2c, o_i2l, o_l2i, x_fld, j_fget, x_idx, j_aget, x_len, j_alen, x_ofb, x_ite, xs_nil, xs_cons, x_callv, x_calls, s_callv, s_calls, j_recv, j_ret, j_retv, b_cmp, b_and, b_or, b_not, b_ofi, b_ite, b_true, s_skip, s_set, j_ty, j_lset, j_kill, s_inc, s_fput, j_fput, s_fop, s_aput, j_aput, j_nar, s_aop, s_ret, s_retv, s_go, s_pop, x_linc, x_finc, Value.category, if_icmp.holds, List.flatMap_cons, List.flatMap_nil, List.length_cons, List.length_append, List.length_nil, List.set_cons_succ, List.set_cons_zero, List.getElem?_cons_succ, List.getElem?_cons_zero, List.replicate, ite_and', ite_or', ite_int', nI_leI, nI_ltI, nI_eq, nI_add, nI_1, pk_mul, nI_clamp, n_in', nI_pos', nI_pos, n_m1e, n_01, n_10, sT_98, sT_99, sT_100, sT_101, sT_102, sT_103, sT_104, sT_105, sT_106, sT_107, sT_108, sT_109, sT_110, sT_111, sT_112, sT_113, sT_114, sT_115, sT_116, sT_117, sT_118, sT_119, sT_120, sT_121, sT_122, sT_123, sT_124, sT_125, sT_126, sT_127, sT_128, sT_129, sT_130, sT_131, sT_132, sT_133, sT_134, sT_135, sT_136, sT_137, sT_138, sT_139, sT_140, sR_98_1, sR_98_4, sR_98_5, sR_98_6, sR_98_7, sR_98_8, sR_98_9, sR_98_10, sR_98_12, sR_98_13, sR_98_14, sR_98_15, sR_98_16, sR_98_17, sR_98_18, sR_98_19, sR_98_20, sR_98_21, sR_98_22, sR_98_23, sR_98_24, sR_98_25, sR_98_26, sR_98_27, sR_98_28, sR_98_29, sR_98_31, sR_98_34, sR_98_35, sR_98_36, sR_98_42, sR_98_44, sR_98_45, sR_98_47, sR_98_49, sR_98_51, sR_98_56, sR_98_58, sR_98_62, sR_98_65, sR_98_66, sR_98_69, d43, hi, d129]
    · rw [hI_setI]
      by_cases e : k = i
      · subst e; simp
      · rw [if_neg (by omega)]; exact g1 k (by omega)
  · rintro st ⟨h1, rfl, f1, g1⟩
    have hs1 := Fr_shape hs f1
    have d43 : hI h1 98 43 = nI n := by rw [Fr_I f1 (by omega)]; exact c43
    refine ⟨_, ?_, h1, .int (nI n), rfl, f1, g1⟩
    simp (disch := first | assumption | omega) [lstp, lc_M_choice_2, lb_M_choice_2, lu_M_choice_2, j_meth, j_out, j_rok, j_pad, lg_sl, s_seq_w, isN_inl, isN_inr, s_if, jb, x_c, x_iloc, x_aloc, x_lloc, x_bin, x_un, o_add, o_sub, o_mul, o_and, o_or, o_xor, o_shl, o_shr, o_ushr, o_max, o_min, o_i2b, o_i2c, o_i2l, o_l2i, x_fld, j_fget, x_idx, j_aget, x_len, j_alen, x_ofb, x_ite, xs_nil, xs_cons, x_callv, x_calls, s_callv, s_calls, j_recv, j_ret, j_retv, b_cmp, b_and, b_or, b_not, b_ofi, b_ite, b_true, s_skip, s_set, j_ty, j_lset, j_kill, s_inc, s_fput, j_fput, s_fop, s_aput, j_aput, j_nar, s_aop, s_ret, s_retv, s_go, s_pop, x_linc, x_finc, Value.category, if_icmp.holds, List.flatMap_cons, List.flatMap_nil, List.length_cons, List.length_append, List.length_nil, List.set_cons_succ, List.set_cons_zero, List.getElem?_cons_succ, List.getElem?_cons_zero, List.replicate, ite_and', ite_or', ite_int', nI_leI, nI_ltI, nI_eq, nI_add, nI_1, pk_mul, nI_clamp, n_in', nI_pos', nI_pos, n_m1e, n_01, n_10, sT_98, sT_99, sT_100, sT_101, sT_102, sT_103, sT_104, sT_105, sT_106, sT_107, sT_108, sT_109, sT_110, sT_111, sT_112, sT_113, sT_114, sT_115, sT_116, sT_117, sT_118, sT_119, sT_120, sT_121, sT_122, sT_123, sT_124, sT_125, sT_126, sT_127, sT_128, sT_129, sT_130, sT_131, sT_132, sT_133, sT_134, sT_135, sT_136, sT_137, sT_138, sT_139, sT_140, sR_98_1, sR_98_4, sR_98_5, sR_98_6, sR_98_7, sR_98_8, sR_98_9, sR_98_10, sR_98_12, sR_98_13, sR_98_14, sR_98_15, sR_98_16, sR_98_17, sR_98_18, sR_98_19, sR_98_20, sR_98_21, sR_98_22, sR_98_23, sR_98_24, sR_98_25, sR_98_26, sR_98_27, sR_98_28, sR_98_29, sR_98_31, sR_98_34, sR_98_35, sR_98_36, sR_98_42, sR_98_44, sR_98_45, sR_98_47, sR_98_49, sR_98_51, sR_98_56, sR_98_58, sR_98_62, sR_98_65, sR_98_66, sR_98_69, d43]
def W3 (f a k : Nat) : Prop := (a = 117 ∨ a = 118 ∨ a = 120 ∨ a = 122) ∧ 30 * f ≤ k ∧ k < 30 * f + 30
theorem e_ch_3 {h : jHp} (hs : Shape h) {f : Nat} {v : Int32} (hf : f < 4) (w0 : Value) : ∃ h' w, s_loop 5 6 lc_M_choice_3 lb_M_choice_3 lu_M_choice_3 ([.ref 98, .int (nI f), .int v, .int (nI 0)], h) = some (.inl 0, ([.ref 98, .int (nI f), .int v, w], h')) ∧ Fr (W3 f) h h' ∧ ∀ k, k < 30 → hI h' 117 (30 * f + k) = hI h 130 k ∧ hI h' 118 (30 * f + k) = hI h 131 k ∧ hI h' 120 (30 * f + k) = hI h 132 k ∧ hI h' 122 (30 * f + k) = hI h 133 k := by
  have hX := loop_wp (lb := 5) (lc := 6) (c := lc_M_choice_3) (b := lb_M_choice_3) (u := lu_M_choice_3) 30
    (fun i st => ∃ h', st = ([.ref 98, .int (nI f), .int v, .int (nI i)], h') ∧ Fr (W3 f) h h' ∧ ∀ k, k < i → hI h' 117 (30 * f + k) = hI h 130 k ∧ hI h' 118 (30 * f + k) = hI h 131 k ∧ hI h' 120 (30 * f + k) = hI h 132 k ∧ hI h' 122 (30 * f + k) = hI h 133 k)
    (fun r => ∃ h' w, r = (.inl 0, ([.ref 98, .int (nI f), .int v, w], h')) ∧ Fr (W3 f) h h' ∧ ∀ k, k < 30 → hI h' 117 (30 * f + k) = hI h 130 k ∧ hI h' 118 (30 * f + k) = hI h 131 k ∧ hI h' 120 (30 * f + k) = hI h 132 k ∧ hI h' 122 (30 * f + k) = hI h 133 k)
    ?_ ?_ ([.ref 98, .int (nI f), .int v, .int (nI 0)], h) ⟨h, rfl, Fr_refl _ _, fun k hk => by cases hk⟩
  · obtain ⟨r, e, h', w, rfl, g⟩ := hX
    exact ⟨h', w, e, g⟩
  · rintro i st hi ⟨h1, rfl, f1, g1⟩
    left
    have hs1 := Fr_shape hs f1
    have d0 : hI h1 130 i = hI h 130 i := Fr_I f1 (by unfold W3; omega)
    have d1 : hI h1 131 i = hI h 131 i := Fr_I f1 (by unfold W3; omega)
    have d2 : hI h1 132 i = hI h 132 i := Fr_I f1 (by unfold W3; omega)
    have d3 : hI h1 133 i = hI h 133 i := Fr_I f1 (by unfold W3; omega)
    have s2 : Shape (hSetI h1 117 (30 * f + i) (hI h 130 i)) := Fr_shape (W := fun _ _ => True) hs1 (Fr_set _ trivial)
    have e2 : hI (hSetI h1 117 (30 * f + i) (hI h 130 i)) 131 i = hI h 131 i := by rw [hI_setI, if_neg (by omega)]; exact d1
    have s3 : Shape (hSetI (hSetI h1 117 (30 * f + i) (hI h 130 i)) 118 (30 * f + i) (hI h 131 i)) := Fr_shape (W := fun _ _ => True) s2 (Fr_set _ trivial)
    have e3 : hI (hSetI (hSetI h1 117 (30 * f + i) (hI h 130 i)) 118 (30 * f + i) (hI h 131 i)) 132 i = hI h 132 i := by rw [hI_setI, if_neg (by omega), hI_setI, if_neg (by omega)]; exact d2
    have s4 : Shape (hSetI (hSetI (hSetI h1 117 (30 * f + i) (hI h 130 i)) 118 (30 * f + i) (hI h 131 i)) 120 (30 * f + i) (hI h 132 i)) := Fr_shape (W := fun _ _ => True) s3 (Fr_set _ trivial)
    have e4 : hI (hSetI (hSetI (hSetI h1 117 (30 * f + i) (hI h 130 i)) 118 (30 * f + i) (hI h 131 i)) 120 (30 * f + i) (hI h 132 i)) 133 i = hI h 133 i := by rw [hI_setI, if_neg (by omega), hI_setI, if_neg (by omega), hI_setI, if_neg (by omega)]; exact d3
    refine ⟨([.ref 98, .int (nI f), .int v, .int (nI (i + 1))], hSetI (hSetI (hSetI (hSetI h1 117 (30 * f + i) (hI h 130 i)) 118 (30 * f + i) (hI h 131 i)) 120 (30 * f + i) (hI h 132 i)) 122 (30 * f + i) (hI h 133 i)), ?_, _, rfl, ?_, fun k hk => ?_⟩
    · generalize hI h 130 i = x0 at *
      generalize hI h 131 i = x1 at *
      generalize hI h 132 i = x2 at *
      generalize hI h 133 i = x3 at *
      generalize hg1 : hSetI h1 117 (30 * f + i) x0 = k1 at *
      generalize hg2 : hSetI k1 118 (30 * f + i) x1 = k2 at *
      generalize hg3 : hSetI k2 120 (30 * f + i) x2 = k3 at *
      simp (disch := first | assumption | omega) [lstp, lc_M_choice_3, lb_M_choice_3, lu_M_choice_3, j_meth, j_out, j_rok, j_pad, lg_sl, s_seq_w, isN_inl, isN_inr, s_if, jb, x_c, x_iloc, x_aloc, x_lloc, x_bin, x_un, o_add, o_sub, o_mul, o_and, o_or, o_xor, o_shl, o_shr, o_ushr, o_max, o_min, o_i2b, o_i2c, o_i2l, o_l2i, x_fld, j_fget, x_idx, j_aget, x_len, j_alen, x_ofb, x_ite, xs_nil, xs_cons, x_callv, x_calls, s_callv, s_calls, j_recv, j_ret, j_retv, b_cmp, b_and, b_or, b_not, b_ofi, b_ite, b_true, s_skip, s_set, j_ty, j_lset, j_kill, s_inc, s_fput, j_fput, s_fop, s_aput, j_aput, j_nar, s_aop, s_ret, s_retv, s_go, s_pop, x_linc, x_finc, Value.category, if_icmp.holds, List.flatMap_cons, List.flatMap_nil, List.length_cons, List.length_append, List.length_nil, List.set_cons_succ, List.set_cons_zero, List.getElem?_cons_succ, List.getElem?_cons_zero, List.replicate, ite_and', ite_or', ite_int', nI_leI, nI_ltI, nI_eq, nI_add, nI_1, pk_mul, nI_clamp, n_in', nI_pos', nI_pos, n_m1e, n_01, n_10, sT_98, sT_99, sT_100, sT_101, sT_102, sT_103, sT_104, sT_105, sT_106, sT_107, sT_108, sT_109, sT_110, sT_111, sT_112, sT_113, sT_114, sT_115, sT_116, sT_117, sT_118, sT_119, sT_120, sT_121, sT_122, sT_123, sT_124, sT_125, sT_126, sT_127, sT_128, sT_129, sT_130, sT_131, sT_132, sT_133, sT_134, sT_135, sT_136, sT_137, sT_138, sT_139, sT_140, sR_98_1, sR_98_4, sR_98_5, sR_98_6, sR_98_7, sR_98_8, sR_98_9, sR_98_10, sR_98_12, sR_98_13, sR_98_14, sR_98_15, sR_98_16, sR_98_17, sR_98_18, sR_98_19, sR_98_20, sR_98_21, sR_98_22, sR_98_23, sR_98_24, sR_98_25, sR_98_26, sR_98_27, sR_98_28, sR_98_29, sR_98_31, sR_98_34, sR_98_35, sR_98_36, sR_98_42, sR_98_44, sR_98_45, sR_98_47, sR_98_49, sR_98_51, sR_98_56, sR_98_58, sR_98_62, sR_98_65, sR_98_66, sR_98_69, hi, d0, hg1, e2, hg2, e3, hg3, e4]
    · refine Fr_trans f1 (Fr_trans (Fr_trans (Fr_trans (Fr_set _ ?_) (Fr_set _ ?_)) (Fr_set _ ?_)) (Fr_set _ ?_)) <;> (unfold W3; omega)
    · by_cases e : k = i
      · subst e
        simp [hI_setI]
      · have := g1 k (by omega)
        have hne : ¬ 30 * f + k = 30 * f + i := by omega
        simp only [hI_setI, hne, and_false, if_false]
        exact this
  · rintro st ⟨h1, rfl, f1, g1⟩
    have hs1 := Fr_shape hs f1
    have h33 : ¬ nI 30 < nI 30 := by decide
    refine ⟨_, ?_, h1, .int (nI 30), rfl, f1, g1⟩
    simp (disch := first | assumption | omega) [lstp, lc_M_choice_3, lb_M_choice_3, lu_M_choice_3, j_meth, j_out, j_rok, j_pad, lg_sl, s_seq_w, isN_inl, isN_inr, s_if, jb, x_c, x_iloc, x_aloc, x_lloc, x_bin, x_un, o_add, o_sub, o_mul, o_and, o_or, o_xor, o_shl, o_shr, o_ushr, o_max, o_min, o_i2b, o_i2c, o_i2l, o_l2i, x_fld, j_fget, x_idx, j_aget, x_len, j_alen, x_ofb, x_ite, xs_nil, xs_cons, x_callv, x_calls, s_callv, s_calls, j_recv, j_ret, j_retv, b_cmp, b_and, b_or, b_not, b_ofi, b_ite, b_true, s_skip, s_set, j_ty, j_lset, j_kill, s_inc, s_fput, j_fput, s_fop, s_aput, j_aput, j_nar, s_aop, s_ret, s_retv, s_go, s_pop, x_linc, x_finc, Value.category, if_icmp.holds, List.flatMap_cons, List.flatMap_nil, List.length_cons, List.length_append, List.length_nil, List.set_cons_succ, List.set_cons_zero, List.getElem?_cons_succ, List.getElem?_cons_zero, List.replicate, ite_and', ite_or', ite_int', nI_leI, nI_ltI, nI_eq, nI_add, nI_1, pk_mul, nI_clamp, n_in', nI_pos', nI_pos, n_m1e, n_01, n_10, sT_98, sT_99, sT_100, sT_101, sT_102, sT_103, sT_104, sT_105, sT_106, sT_107, sT_108, sT_109, sT_110, sT_111, sT_112, sT_113, sT_114, sT_115, sT_116, sT_117, sT_118, sT_119, sT_120, sT_121, sT_122, sT_123, sT_124, sT_125, sT_126, sT_127, sT_128, sT_129, sT_130, sT_131, sT_132, sT_133, sT_134, sT_135, sT_136, sT_137, sT_138, sT_139, sT_140, sR_98_1, sR_98_4, sR_98_5, sR_98_6, sR_98_7, sR_98_8, sR_98_9, sR_98_10, sR_98_12, sR_98_13, sR_98_14, sR_98_15, sR_98_16, sR_98_17, sR_98_18, sR_98_19, sR_98_20, sR_98_21, sR_98_22, sR_98_23, sR_98_24, sR_98_25, sR_98_26, sR_98_27, sR_98_28, sR_98_29, sR_98_31, sR_98_34, sR_98_35, sR_98_36, sR_98_42, sR_98_44, sR_98_45, sR_98_47, sR_98_49, sR_98_51, sR_98_56, sR_98_58, sR_98_62, sR_98_65, sR_98_66, sR_98_69, h33]
def Wch (f a k : Nat) : Prop := ((a = 112 ∨ a = 113 ∨ a = 114 ∨ a = 116 ∨ a = 119 ∨ a = 121 ∨ a = 123) ∧ k = f) ∨ (a = 115 ∧ 5 * f ≤ k ∧ k < 5 * f + 5) ∨ W3 f a k ∨ (a = 98 ∧ k = 37)
theorem e_chT2 {h : jHp} (hs : Shape h) {f : Nat} {C : CH} (hf : f < 4) (hC : CHk C 21) (rc : RCn C h) (v : Int32) : ∃ h', j_out 1 (chT2 ([.ref 98, .int (nI f), .int v, .null], h)) = some (some (.int v), h') ∧ Fr (Wch f) h h' ∧ hI h' 112 f = 1 ∧ RMch1 C h' f ∧ hI h' 98 37 = 0 := by
  obtain ⟨q1, q2, ⟨q3, q4⟩, ⟨q5, q6⟩, ⟨q7, q8⟩, ⟨q9, q10⟩⟩ := rc
  have c1 : (nI 1 &&& 1 : Int32) = 1 := by decide
  -- the first four
  have s1 : Shape (hSetI h 112 f 1) := Fr_shape (W := fun _ _ => True) hs (Fr_set _ trivial)
  have a1 : hI (hSetI h 112 f 1) 98 40 = nI (cMost C) := by rw [hI_setI, if_neg (by omega)]; exact q1
  have s2 : Shape (hSetI (hSetI h 112 f 1) 113 f (nI (cMost C))) := Fr_shape (W := fun _ _ => True) s1 (Fr_set _ trivial)
  have a2 : hI (hSetI (hSetI h 112 f 1) 113 f (nI (cMost C))) 98 41 = oI (cMoney C) := by rw [hI_setI, if_neg (by omega), hI_setI, if_neg (by omega)]; exact q2
  have s3 : Shape (hSetI (hSetI (hSetI h 112 f 1) 113 f (nI (cMost C))) 114 f (oI (cMoney C))) := Fr_shape (W := fun _ _ => True) s2 (Fr_set _ trivial)
  have a3 : hI (hSetI (hSetI (hSetI h 112 f 1) 113 f (nI (cMost C))) 114 f (oI (cMoney C))) 98 43 = nI (cKeys C).length := by rw [hI_setI, if_neg (by omega), hI_setI, if_neg (by omega), hI_setI, if_neg (by omega)]; exact q3
  have s4 : Shape (hSetI (hSetI (hSetI (hSetI h 112 f 1) 113 f (nI (cMost C))) 114 f (oI (cMoney C))) 116 f (nI (cKeys C).length)) := Fr_shape (W := fun _ _ => True) s3 (Fr_set _ trivial)
  have fr4 : Fr (fun a k => (a = 112 ∨ a = 113 ∨ a = 114 ∨ a = 116) ∧ k = f) h (hSetI (hSetI (hSetI (hSetI h 112 f 1) 113 f (nI (cMost C))) 114 f (oI (cMoney C))) 116 f (nI (cKeys C).length)) := by
    refine Fr_trans (Fr_trans (Fr_trans (Fr_set _ ?_) (Fr_set _ ?_)) (Fr_set _ ?_)) (Fr_set _ ?_) <;> simp
  have b1 : hI (hSetI (hSetI (hSetI (hSetI h 112 f 1) 113 f (nI (cMost C))) 114 f (oI (cMoney C))) 116 f (nI (cKeys C).length)) 112 f = 1 ∧ hI (hSetI (hSetI (hSetI (hSetI h 112 f 1) 113 f (nI (cMost C))) 114 f (oI (cMoney C))) 116 f (nI (cKeys C).length)) 113 f = nI (cMost C) ∧ hI (hSetI (hSetI (hSetI (hSetI h 112 f 1) 113 f (nI (cMost C))) 114 f (oI (cMoney C))) 116 f (nI (cKeys C).length)) 114 f = oI (cMoney C) ∧ hI (hSetI (hSetI (hSetI (hSetI h 112 f 1) 113 f (nI (cMost C))) 114 f (oI (cMoney C))) 116 f (nI (cKeys C).length)) 116 f = nI (cKeys C).length := by simp [hI_setI]
  have d43 : hI (hSetI (hSetI (hSetI (hSetI h 112 f 1) 113 f (nI (cMost C))) 114 f (oI (cMoney C))) 116 f (nI (cKeys C).length)) 98 43 = nI (cKeys C).length := by rw [Fr_I fr4 (by omega)]; exact q3
  generalize hg1 : hSetI h 112 f 1 = h1 at *
  generalize hg2 : hSetI h1 113 f (nI (cMost C)) = h2 at *
  generalize hg3 : hSetI h2 114 f (oI (cMoney C)) = h3 at *
  generalize hg4 : hSetI h3 116 f (nI (cKeys C).length) = h4 at *
  obtain ⟨h5, w5, e5, f5, g5⟩ := e_ch_2 s4 (v := v) hf hC.2.2.1 d43
  have s5 := Fr_shape s4 f5
  have fr5 : Fr (fun a k => ((a = 112 ∨ a = 113 ∨ a = 114 ∨ a = 116) ∧ k = f) ∨ (a = 115 ∧ 5 * f ≤ k ∧ k < 5 * f + 5)) h h5 := Fr_trans (Fr_mono fr4 fun a k q => Or.inl q) (Fr_mono f5 fun a k q => Or.inr q)
  have p5 : hI h5 98 46 = nI (cKeeps C).length := by rw [Fr_I fr5 (by omega)]; exact q5
  have p7 : hI h5 98 48 = nI (cBoths C).length := by rw [Fr_I fr5 (by omega)]; exact q7
  have p9 : hI h5 98 50 = nI (cNevers C).length := by rw [Fr_I fr5 (by omega)]; exact q9
  have s6 : Shape (hSetI h5 119 f (nI (cKeeps C).length)) := Fr_shape (W := fun _ _ => True) s5 (Fr_set _ trivial)
  have a6 : hI (hSetI h5 119 f (nI (cKeeps C).length)) 98 48 = nI (cBoths C).length := by rw [hI_setI, if_neg (by omega)]; exact p7
  have s7 : Shape (hSetI (hSetI h5 119 f (nI (cKeeps C).length)) 121 f (nI (cBoths C).length)) := Fr_shape (W := fun _ _ => True) s6 (Fr_set _ trivial)
  have a7 : hI (hSetI (hSetI h5 119 f (nI (cKeeps C).length)) 121 f (nI (cBoths C).length)) 98 50 = nI (cNevers C).length := by rw [hI_setI, if_neg (by omega), hI_setI, if_neg (by omega)]; exact p9
  have s8 : Shape (hSetI (hSetI (hSetI h5 119 f (nI (cKeeps C).length)) 121 f (nI (cBoths C).length)) 123 f (nI (cNevers C).length)) := Fr_shape (W := fun _ _ => True) s7 (Fr_set _ trivial)
  have fr8 : Fr (fun a k => (a = 119 ∨ a = 121 ∨ a = 123) ∧ k = f) h5 (hSetI (hSetI (hSetI h5 119 f (nI (cKeeps C).length)) 121 f (nI (cBoths C).length)) 123 f (nI (cNevers C).length)) := by
    refine Fr_trans (Fr_trans (Fr_set _ ?_) (Fr_set _ ?_)) (Fr_set _ ?_) <;> simp
  have b8 : hI (hSetI (hSetI (hSetI h5 119 f (nI (cKeeps C).length)) 121 f (nI (cBoths C).length)) 123 f (nI (cNevers C).length)) 119 f = nI (cKeeps C).length ∧ hI (hSetI (hSetI (hSetI h5 119 f (nI (cKeeps C).length)) 121 f (nI (cBoths C).length)) 123 f (nI (cNevers C).length)) 121 f = nI (cBoths C).length ∧ hI (hSetI (hSetI (hSetI h5 119 f (nI (cKeeps C).length)) 121 f (nI (cBoths C).length)) 123 f (nI (cNevers C).length)) 123 f = nI (cNevers C).length := by simp [hI_setI]
  generalize hg6 : hSetI h5 119 f (nI (cKeeps C).length) = h6 at *
  generalize hg7 : hSetI h6 121 f (nI (cBoths C).length) = h7 at *
  generalize hg8 : hSetI h7 123 f (nI (cNevers C).length) = h8 at *
  obtain ⟨h9, w9, e9, f9, g9⟩ := e_ch_3 s8 (v := v) hf w5
  have s9 := Fr_shape s8 f9
  have fr9 : Fr (Wch f) h (hSetI h9 98 37 (nI 0)) := Fr_trans (Fr_trans (Fr_trans (Fr_mono fr5 (by unfold Wch; intro a k; omega)) (Fr_mono fr8 (by unfold Wch; intro a k; omega))) (Fr_mono f9 (by unfold Wch; intro a k q; exact Or.inr (Or.inr (Or.inl q))))) (Fr_set _ (Or.inr (Or.inr (Or.inr ⟨rfl, rfl⟩))))
  have hz : (nI 0 = (0 : Int32)) = True := by rw [nI_0]; simp
  have k5 := hC.2.2.1
  have l1 := hC.2.2.2.2.1
  have l2 := hC.2.2.2.2.2.2.1
  have l3 := hC.2.2.2.2.2.2.2.2.1
  refine ⟨hSetI h9 98 37 (nI 0), ?_, fr9, ?_, ?_, ?_⟩
  · have hst : j_out 1 (chT2 ([.ref 98, .int (nI f), .int v, .null], h)) = j_out 1 (chT3 ([.ref 98, .int (nI f), .int v, w5], h5)) := by
      simp (disch := first | assumption | omega) [chT2, j_meth, j_out, j_rok, j_pad, lg_sl, s_seq_w, isN_inl, isN_inr, s_if, jb, x_c, x_iloc, x_aloc, x_lloc, x_bin, x_un, o_add, o_sub, o_mul, o_and, o_or, o_xor, o_shl, o_shr, o_ushr, o_max, o_min, o_i2b, o_i2c, o_i2l, o_l2i, x_fld, j_fget, x_idx, j_aget, x_len, j_alen, x_ofb, x_ite, xs_nil, xs_cons, x_callv, x_calls, s_callv, s_calls, j_recv, j_ret, j_retv, b_cmp, b_and, b_or, b_not, b_ofi, b_ite, b_true, s_skip, s_set, j_ty, j_lset, j_kill, s_inc, s_fput, j_fput, s_fop, s_aput, j_aput, j_nar, s_aop, s_ret, s_retv, s_go, s_pop, x_linc, x_finc, Value.category, if_icmp.holds, List.flatMap_cons, List.flatMap_nil, List.length_cons, List.length_append, List.length_nil, List.set_cons_succ, List.set_cons_zero, List.getElem?_cons_succ, List.getElem?_cons_zero, List.replicate, ite_and', ite_or', ite_int', nI_leI, nI_ltI, nI_eq, nI_add, nI_1, pk_mul, nI_clamp, n_in', nI_pos', nI_pos, n_m1e, n_01, n_10, sT_98, sT_99, sT_100, sT_101, sT_102, sT_103, sT_104, sT_105, sT_106, sT_107, sT_108, sT_109, sT_110, sT_111, sT_112, sT_113, sT_114, sT_115, sT_116, sT_117, sT_118, sT_119, sT_120, sT_121, sT_122, sT_123, sT_124, sT_125, sT_126, sT_127, sT_128, sT_129, sT_130, sT_131, sT_132, sT_133, sT_134, sT_135, sT_136, sT_137, sT_138, sT_139, sT_140, sR_98_1, sR_98_4, sR_98_5, sR_98_6, sR_98_7, sR_98_8, sR_98_9, sR_98_10, sR_98_12, sR_98_13, sR_98_14, sR_98_15, sR_98_16, sR_98_17, sR_98_18, sR_98_19, sR_98_20, sR_98_21, sR_98_22, sR_98_23, sR_98_24, sR_98_25, sR_98_26, sR_98_27, sR_98_28, sR_98_29, sR_98_31, sR_98_34, sR_98_35, sR_98_36, sR_98_42, sR_98_44, sR_98_45, sR_98_47, sR_98_49, sR_98_51, sR_98_56, sR_98_58, sR_98_62, sR_98_65, sR_98_66, sR_98_69, c1, hg1, a1, hg2, a2, hg3, a3, hg4, e5]
    rw [hst]
    simp only [nI_0] at e9
    have s10 : Shape (hSetI h9 98 37 (nI 0)) := Fr_shape hs fr9
    have hg10 : hSetI h9 98 37 0 = hSetI h9 98 37 (nI 0) := by rw [nI_0]
    generalize hSetI h9 98 37 (nI 0) = h10 at *
    simp (disch := first | assumption | omega) [chT3, j_meth, j_out, j_rok, j_pad, lg_sl, s_seq_w, isN_inl, isN_inr, s_if, jb, x_c, x_iloc, x_aloc, x_lloc, x_bin, x_un, o_add, o_sub, o_mul, o_and, o_or, o_xor, o_shl, o_shr, o_ushr, o_max, o_min, o_i2b, o_i2c, o_i2l, o_l2i, x_fld, j_fget, x_idx, j_aget, x_len, j_alen, x_ofb, x_ite, xs_nil, xs_cons, x_callv, x_calls, s_callv, s_calls, j_recv, j_ret, j_retv, b_cmp, b_and, b_or, b_not, b_ofi, b_ite, b_true, s_skip, s_set, j_ty, j_lset, j_kill, s_inc, s_fput, j_fput, s_fop, s_aput, j_aput, j_nar, s_aop, s_ret, s_retv, s_go, s_pop, x_linc, x_finc, Value.category, if_icmp.holds, List.flatMap_cons, List.flatMap_nil, List.length_cons, List.length_append, List.length_nil, List.set_cons_succ, List.set_cons_zero, List.getElem?_cons_succ, List.getElem?_cons_zero, List.replicate, ite_and', ite_or', ite_int', nI_leI, nI_ltI, nI_eq, nI_add, nI_1, pk_mul, nI_clamp, n_in', nI_pos', nI_pos, n_m1e, n_01, n_10, sT_98, sT_99, sT_100, sT_101, sT_102, sT_103, sT_104, sT_105, sT_106, sT_107, sT_108, sT_109, sT_110, sT_111, sT_112, sT_113, sT_114, sT_115, sT_116, sT_117, sT_118, sT_119, sT_120, sT_121, sT_122, sT_123, sT_124, sT_125, sT_126, sT_127, sT_128, sT_129, sT_130, sT_131, sT_132, sT_133, sT_134, sT_135, sT_136, sT_137, sT_138, sT_139, sT_140, sR_98_1, sR_98_4, sR_98_5, sR_98_6, sR_98_7, sR_98_8, sR_98_9, sR_98_10, sR_98_12, sR_98_13, sR_98_14, sR_98_15, sR_98_16, sR_98_17, sR_98_18, sR_98_19, sR_98_20, sR_98_21, sR_98_22, sR_98_23, sR_98_24, sR_98_25, sR_98_26, sR_98_27, sR_98_28, sR_98_29, sR_98_31, sR_98_34, sR_98_35, sR_98_36, sR_98_42, sR_98_44, sR_98_45, sR_98_47, sR_98_49, sR_98_51, sR_98_56, sR_98_58, sR_98_62, sR_98_65, sR_98_66, sR_98_69, p5, hg6, a6, hg7, a7, hg8, nI_0, e9, hg10]
  · rw [hI_setI, if_neg (by omega), Fr_I f9 (by unfold W3; omega), Fr_I fr8 (by omega), Fr_I f5 (by omega)]; exact b1.1
  · have t : ∀ a k, ¬ (a = 98 ∧ k = 37) → hI (hSetI h9 98 37 (nI 0)) a k = hI h9 a k := fun a k q => by rw [hI_setI, if_neg q]
    have u5 : ∀ a k, a ≠ 115 → ¬ ((a = 119 ∨ a = 121 ∨ a = 123) ∧ k = f) → ¬ W3 f a k → hI h9 a k = hI h4 a k := fun a k z1 z2 z3 => by rw [Fr_I f9 z3, Fr_I fr8 z2, Fr_I f5 (by omega)]
    refine ⟨?_, ?_, ⟨?_, fun k hk => ?_⟩, ⟨?_, fun k hk => ?_⟩, ⟨?_, fun k hk => ?_⟩, ⟨?_, fun k hk => ?_⟩⟩
    · rw [t _ _ (by omega), u5 _ _ (by omega) (by omega) (by unfold W3; omega)]; exact b1.2.1
    · rw [t _ _ (by omega), u5 _ _ (by omega) (by omega) (by unfold W3; omega)]; exact b1.2.2.1
    · rw [t _ _ (by omega), u5 _ _ (by omega) (by omega) (by unfold W3; omega)]; exact b1.2.2.2
    · rw [t _ _ (by omega), Fr_I f9 (by unfold W3; omega), Fr_I fr8 (by omega), g5 k hk, Fr_I fr4 (by omega)]; exact q4 k hk
    · rw [t _ _ (by omega), Fr_I f9 (by unfold W3; omega)]; exact b8.1
    · have := g9 k (by omega)
      rw [t _ _ (by omega), t _ _ (by omega), this.1, this.2.1, Fr_I fr8 (by omega), Fr_I fr8 (by omega), Fr_I fr5 (by omega), Fr_I fr5 (by omega)]
      exact q6 k hk
    · rw [t _ _ (by omega), Fr_I f9 (by unfold W3; omega)]; exact b8.2.1
    · have := g9 k (by omega)
      rw [t _ _ (by omega), this.2.2.1, Fr_I fr8 (by omega), Fr_I fr5 (by omega)]
      exact q8 k hk
    · rw [t _ _ (by omega), Fr_I f9 (by unfold W3; omega)]; exact b8.2.2
    · have := g9 k (by omega)
      rw [t _ _ (by omega), this.2.2.2, Fr_I fr8 (by omega), Fr_I fr5 (by omega)]
      exact q10 k hk
  · rw [hI_setI, if_pos ⟨rfl, rfl⟩]; rfl
