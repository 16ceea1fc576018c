def prOk (A : AS) (x a b : Int32) : Prop := j_in x (aNc A) = true ∧ isOfP A a (aC1 A x.toNatClampNeg) ∧ isOfP A b (aC2 A x.toNatClampNeg) ∧ ¬ (a = -1 ∧ b = -1) ∧ (aPl A x.toNatClampNeg).length ≠ 8 ∧ (iO a, iO b) ∉ aPl A x.toNatClampNeg
noncomputable def vPair (A : AS) (x a b : Int32) : Int32 × AS := @ite _ (prOk A x a b) (Classical.propDecidable _) (nI ((aPl A x.toNatClampNeg).length + 1), aPair A x.toNatClampNeg (aPl A x.toNatClampNeg ++ [(iO a, iO b)])) (-1, A)
theorem WF_pair {A : AS} (w : WF A) {c : Nat} {q : Option Nat × Option Nat} (hc : c < aNc A) (hq : PRok A c q) (h8 : (aPl A c).length ≠ 8) (hnm : q ∉ aPl A c) : WF (aPair A c (aPl A c ++ [q])) := by
  obtain ⟨w1, w2, w3, w4, ⟨w5, w5', w5a, w5b⟩, w6, w7⟩ := w
  refine ⟨w1, w2, w3, w4, ⟨w5, w5', w5a, fun d => ?_⟩, w6, w7⟩
  show (aNc A ≤ d → updN (aPl A) c (aPl A c ++ [q]) d = []) ∧ (updN (aPl A) c (aPl A c ++ [q]) d).length ≤ 8 ∧ (updN (aPl A) c (aPl A c ++ [q]) d).Nodup ∧ ∀ z ∈ updN (aPl A) c (aPl A c ++ [q]) d, PRok A d z
  obtain ⟨p1, p2, p3, p4⟩ := w5b d
  by_cases e : d = c
  · subst e
    rw [updN_eq]
    refine ⟨fun z => by omega, by rw [List.length_append, List.length_singleton]; omega, ?_, fun z hz => ?_⟩
    · rw [List.nodup_append]
      refine ⟨p3, by simp, fun a ha b hb => ?_⟩
      simp only [List.mem_singleton] at hb
      subst hb
      exact fun e => hnm (e ▸ ha)
    · rcases List.mem_append.mp hz with z1 | z1
      · exact p4 z z1
      · simp only [List.mem_singleton] at z1; subst z1; exact hq
  · rw [updN_ne _ _ e]
    exact ⟨p1, p2, p3, p4⟩
theorem o_M_pair {A : AS} {tx : List Nat} {rw : List Int32} {h : jHp} (r : RMX A tx rw h) (x a b : Int32) : ∃ h', f_M_pair [.ref 98, .int x, .int a, .int b] h = some (some (.int (vPair A x a b).1), h') ∧ RMX (vPair A x a b).2 tx rw h' ∧ Fr WM h h' := by
  have hs := r.1.1
  have w := r.1.2.1
  have hn := w.1.1
  have h20 := w.2.2.1.1
  have hnc := w.2.2.2.2.1.1
  have m0 := op_33 r
  have r0 := RMX_33 r (nI 0)
  have hs0 := r0.1.1
  have q11 := r0.1.2.2.2.2.2.1.1
  have f0 : Fr W33 h (hSetI h 98 33 (nI 0)) := Fr_set _ ⟨rfl, rfl⟩
  have k0 := r0.1
  generalize hh0 : hSetI h 98 33 (nI 0) = h0 at *
  have ei := e_M_in h0 x (nI 0) (nI (aNc A) - nI 1)
  have hji := j_in_le (x := x) (n := aNc A) (by omega)
  have bad : ¬ prOk A x a b → f_M_pair [.ref 98, .int x, .int a, .int b] h = some (some (.int (-1)), h0) → ∃ h', f_M_pair [.ref 98, .int x, .int a, .int b] h = some (some (.int (vPair A x a b).1), h') ∧ RMX (vPair A x a b).2 tx rw h' ∧ Fr WM h h' := by
    intro hb he
    have hv : vPair A x a b = (-1, A) := if_neg hb
    rw [hv]
    exact ⟨h0, he, op_fin r m0 r0.2.2.2.1⟩
  by_cases hx : j_in x (aNc A) = true
  case neg =>
    rw [if_neg (fun q => hx (hji.mp (by rw [← nI_0]; exact q)))] at ei
    exact bad (fun q => hx q.1) (by simp (disch := first | assumption | omega) [f_M_pair, body_M_pair, j_meth, j_out, j_rok, j_pad, lg_sl, s_seq_w, isN_inl, isN_inr, s_if, jb, x_c, x_iloc, x_aloc, x_lloc, x_bin, x_un, o_add, o_sub, o_mul, o_and, o_or, o_xor, o_shl, o_shr, o_ushr, o_max, o_min, o_i2b, o_i2c, o_i2l, o_l2i, x_fld, j_fget, x_idx, j_aget, x_len, j_alen, x_ofb, x_ite, xs_nil, xs_cons, x_callv, x_calls, s_callv, s_calls, j_recv, j_ret, j_retv, b_cmp, b_and, b_or, b_not, b_ofi, b_ite, b_true, s_skip, s_set, j_ty, j_lset, j_kill, s_inc, s_fput, j_fput, s_fop, s_aput, j_aput, j_nar, s_aop, s_ret, s_retv, s_go, s_pop, x_linc, x_finc, Value.category, if_icmp.holds, List.flatMap_cons, List.flatMap_nil, List.length_cons, List.length_append, List.length_nil, List.set_cons_succ, List.set_cons_zero, List.getElem?_cons_succ, List.getElem?_cons_zero, List.replicate, ite_and', ite_or', ite_int', nI_leI, nI_ltI, nI_eq, nI_add, nI_1, pk_mul, nI_clamp, n_in', nI_pos', nI_pos, n_m1e, n_01, n_10, sT_98, sT_99, sT_100, sT_101, sT_102, sT_103, sT_104, sT_105, sT_106, sT_107, sT_108, sT_109, sT_110, sT_111, sT_112, sT_113, sT_114, sT_115, sT_116, sT_117, sT_118, sT_119, sT_120, sT_121, sT_122, sT_123, sT_124, sT_125, sT_126, sT_127, sT_128, sT_129, sT_130, sT_131, sT_132, sT_133, sT_134, sT_135, sT_136, sT_137, sT_138, sT_139, sT_140, sR_98_1, sR_98_4, sR_98_5, sR_98_6, sR_98_7, sR_98_8, sR_98_9, sR_98_10, sR_98_12, sR_98_13, sR_98_14, sR_98_15, sR_98_16, sR_98_17, sR_98_18, sR_98_19, sR_98_20, sR_98_21, sR_98_22, sR_98_23, sR_98_24, sR_98_25, sR_98_26, sR_98_27, sR_98_28, sR_98_29, sR_98_31, sR_98_34, sR_98_35, sR_98_36, sR_98_42, sR_98_44, sR_98_45, sR_98_47, sR_98_49, sR_98_51, sR_98_56, sR_98_58, sR_98_62, sR_98_65, sR_98_66, sR_98_69, hh0, q11, ei])
  rw [if_pos (by rw [nI_0]; exact hji.mpr hx)] at ei
  obtain ⟨c, hc, rfl⟩ := j_in_ex hx (by omega)
  have cc : (nI c).toNatClampNeg = c := nI_clamp (by omega)
  obtain ⟨d1, d2⟩ := k0.2.2.2.2.2.1.2.1 c hc
  obtain ⟨d3, d4⟩ := k0.2.2.2.2.2.1.2.2 c (by omega)
  obtain ⟨l1, l2, -⟩ := w.2.2.2.2.1.2.1 c hc
  have hl8 := (w.2.2.2.2.1.2.2.2 c).2.1
  have ea := e_M_isOf k0 a (p := aC1 A c) (by omega)
  have eb := e_M_isOf k0 b (p := aC2 A c) (by omega)
  by_cases ha : isOfP A a (aC1 A c)
  case neg =>
    rw [if_neg ha] at ea
    exact bad (fun q => ha (by have := q.2.1; rw [cc] at this; exact this)) (by simp (disch := first | assumption | omega) [f_M_pair, body_M_pair, j_meth, j_out, j_rok, j_pad, lg_sl, s_seq_w, isN_inl, isN_inr, s_if, jb, x_c, x_iloc, x_aloc, x_lloc, x_bin, x_un, o_add, o_sub, o_mul, o_and, o_or, o_xor, o_shl, o_shr, o_ushr, o_max, o_min, o_i2b, o_i2c, o_i2l, o_l2i, x_fld, j_fget, x_idx, j_aget, x_len, j_alen, x_ofb, x_ite, xs_nil, xs_cons, x_callv, x_calls, s_callv, s_calls, j_recv, j_ret, j_retv, b_cmp, b_and, b_or, b_not, b_ofi, b_ite, b_true, s_skip, s_set, j_ty, j_lset, j_kill, s_inc, s_fput, j_fput, s_fop, s_aput, j_aput, j_nar, s_aop, s_ret, s_retv, s_go, s_pop, x_linc, x_finc, Value.category, if_icmp.holds, List.flatMap_cons, List.flatMap_nil, List.length_cons, List.length_append, List.length_nil, List.set_cons_succ, List.set_cons_zero, List.getElem?_cons_succ, List.getElem?_cons_zero, List.replicate, ite_and', ite_or', ite_int', nI_leI, nI_ltI, nI_eq, nI_add, nI_1, pk_mul, nI_clamp, n_in', nI_pos', nI_pos, n_m1e, n_01, n_10, sT_98, sT_99, sT_100, sT_101, sT_102, sT_103, sT_104, sT_105, sT_106, sT_107, sT_108, sT_109, sT_110, sT_111, sT_112, sT_113, sT_114, sT_115, sT_116, sT_117, sT_118, sT_119, sT_120, sT_121, sT_122, sT_123, sT_124, sT_125, sT_126, sT_127, sT_128, sT_129, sT_130, sT_131, sT_132, sT_133, sT_134, sT_135, sT_136, sT_137, sT_138, sT_139, sT_140, sR_98_1, sR_98_4, sR_98_5, sR_98_6, sR_98_7, sR_98_8, sR_98_9, sR_98_10, sR_98_12, sR_98_13, sR_98_14, sR_98_15, sR_98_16, sR_98_17, sR_98_18, sR_98_19, sR_98_20, sR_98_21, sR_98_22, sR_98_23, sR_98_24, sR_98_25, sR_98_26, sR_98_27, sR_98_28, sR_98_29, sR_98_31, sR_98_34, sR_98_35, sR_98_36, sR_98_42, sR_98_44, sR_98_45, sR_98_47, sR_98_49, sR_98_51, sR_98_56, sR_98_58, sR_98_62, sR_98_65, sR_98_66, sR_98_69, hh0, q11, ei, d1, ea])
  rw [if_pos ha] at ea
  by_cases hb : isOfP A b (aC2 A c)
  case neg =>
    rw [if_neg hb] at eb
    exact bad (fun q => hb (by have := q.2.2.1; rw [cc] at this; exact this)) (by simp (disch := first | assumption | omega) [f_M_pair, body_M_pair, j_meth, j_out, j_rok, j_pad, lg_sl, s_seq_w, isN_inl, isN_inr, s_if, jb, x_c, x_iloc, x_aloc, x_lloc, x_bin, x_un, o_add, o_sub, o_mul, o_and, o_or, o_xor, o_shl, o_shr, o_ushr, o_max, o_min, o_i2b, o_i2c, o_i2l, o_l2i, x_fld, j_fget, x_idx, j_aget, x_len, j_alen, x_ofb, x_ite, xs_nil, xs_cons, x_callv, x_calls, s_callv, s_calls, j_recv, j_ret, j_retv, b_cmp, b_and, b_or, b_not, b_ofi, b_ite, b_true, s_skip, s_set, j_ty, j_lset, j_kill, s_inc, s_fput, j_fput, s_fop, s_aput, j_aput, j_nar, s_aop, s_ret, s_retv, s_go, s_pop, x_linc, x_finc, Value.category, if_icmp.holds, List.flatMap_cons, List.flatMap_nil, List.length_cons, List.length_append, List.length_nil, List.set_cons_succ, List.set_cons_zero, List.getElem?_cons_succ, List.getElem?_cons_zero, List.replicate, ite_and', ite_or', ite_int', nI_leI, nI_ltI, nI_eq, nI_add, nI_1, pk_mul, nI_clamp, n_in', nI_pos', nI_pos, n_m1e, n_01, n_10, sT_98, sT_99, sT_100, sT_101, sT_102, sT_103, sT_104, sT_105, sT_106, sT_107, sT_108, sT_109, sT_110, sT_111, sT_112, sT_113, sT_114, sT_115, sT_116, sT_117, sT_118, sT_119, sT_120, sT_121, sT_122, sT_123, sT_124, sT_125, sT_126, sT_127, sT_128, sT_129, sT_130, sT_131, sT_132, sT_133, sT_134, sT_135, sT_136, sT_137, sT_138, sT_139, sT_140, sR_98_1, sR_98_4, sR_98_5, sR_98_6, sR_98_7, sR_98_8, sR_98_9, sR_98_10, sR_98_12, sR_98_13, sR_98_14, sR_98_15, sR_98_16, sR_98_17, sR_98_18, sR_98_19, sR_98_20, sR_98_21, sR_98_22, sR_98_23, sR_98_24, sR_98_25, sR_98_26, sR_98_27, sR_98_28, sR_98_29, sR_98_31, sR_98_34, sR_98_35, sR_98_36, sR_98_42, sR_98_44, sR_98_45, sR_98_47, sR_98_49, sR_98_51, sR_98_56, sR_98_58, sR_98_62, sR_98_65, sR_98_66, sR_98_69, hh0, q11, ei, d1, d2, ea, eb])
  rw [if_pos hb] at eb
  by_cases hab : a = -1 ∧ b = -1
  · obtain ⟨rfl, rfl⟩ := hab
    exact bad (fun q => q.2.2.2.1 ⟨rfl, rfl⟩) (by simp (disch := first | assumption | omega) [f_M_pair, body_M_pair, j_meth, j_out, j_rok, j_pad, lg_sl, s_seq_w, isN_inl, isN_inr, s_if, jb, x_c, x_iloc, x_aloc, x_lloc, x_bin, x_un, o_add, o_sub, o_mul, o_and, o_or, o_xor, o_shl, o_shr, o_ushr, o_max, o_min, o_i2b, o_i2c, o_i2l, o_l2i, x_fld, j_fget, x_idx, j_aget, x_len, j_alen, x_ofb, x_ite, xs_nil, xs_cons, x_callv, x_calls, s_callv, s_calls, j_recv, j_ret, j_retv, b_cmp, b_and, b_or, b_not, b_ofi, b_ite, b_true, s_skip, s_set, j_ty, j_lset, j_kill, s_inc, s_fput, j_fput, s_fop, s_aput, j_aput, j_nar, s_aop, s_ret, s_retv, s_go, s_pop, x_linc, x_finc, Value.category, if_icmp.holds, List.flatMap_cons, List.flatMap_nil, List.length_cons, List.length_append, List.length_nil, List.set_cons_succ, List.set_cons_zero, List.getElem?_cons_succ, List.getElem?_cons_zero, List.replicate, ite_and', ite_or', ite_int', nI_leI, nI_ltI, nI_eq, nI_add, nI_1, pk_mul, nI_clamp, n_in', nI_pos', nI_pos, n_m1e, n_01, n_10, sT_98, sT_99, sT_100, sT_101, sT_102, sT_103, sT_104, sT_105, sT_106, sT_107, sT_108, sT_109, sT_110, sT_111, sT_112, sT_113, sT_114, sT_115, sT_116, sT_117, sT_118, sT_119, sT_120, sT_121, sT_122, sT_123, sT_124, sT_125, sT_126, sT_127, sT_128, sT_129, sT_130, sT_131, sT_132, sT_133, sT_134, sT_135, sT_136, sT_137, sT_138, sT_139, sT_140, sR_98_1, sR_98_4, sR_98_5, sR_98_6, sR_98_7, sR_98_8, sR_98_9, sR_98_10, sR_98_12, sR_98_13, sR_98_14, sR_98_15, sR_98_16, sR_98_17, sR_98_18, sR_98_19, sR_98_20, sR_98_21, sR_98_22, sR_98_23, sR_98_24, sR_98_25, sR_98_26, sR_98_27, sR_98_28, sR_98_29, sR_98_31, sR_98_34, sR_98_35, sR_98_36, sR_98_42, sR_98_44, sR_98_45, sR_98_47, sR_98_49, sR_98_51, sR_98_56, sR_98_58, sR_98_62, sR_98_65, sR_98_66, sR_98_69, hh0, q11, ei, d1, d2, ea, eb])
  by_cases h8 : (aPl A c).length = 8
  · rw [h8] at d3
    exact bad (fun q => by have := q.2.2.2.2.1; rw [cc] at this; exact this h8) (by simp (disch := first | assumption | omega) [f_M_pair, body_M_pair, j_meth, j_out, j_rok, j_pad, lg_sl, s_seq_w, isN_inl, isN_inr, s_if, jb, x_c, x_iloc, x_aloc, x_lloc, x_bin, x_un, o_add, o_sub, o_mul, o_and, o_or, o_xor, o_shl, o_shr, o_ushr, o_max, o_min, o_i2b, o_i2c, o_i2l, o_l2i, x_fld, j_fget, x_idx, j_aget, x_len, j_alen, x_ofb, x_ite, xs_nil, xs_cons, x_callv, x_calls, s_callv, s_calls, j_recv, j_ret, j_retv, b_cmp, b_and, b_or, b_not, b_ofi, b_ite, b_true, s_skip, s_set, j_ty, j_lset, j_kill, s_inc, s_fput, j_fput, s_fop, s_aput, j_aput, j_nar, s_aop, s_ret, s_retv, s_go, s_pop, x_linc, x_finc, Value.category, if_icmp.holds, List.flatMap_cons, List.flatMap_nil, List.length_cons, List.length_append, List.length_nil, List.set_cons_succ, List.set_cons_zero, List.getElem?_cons_succ, List.getElem?_cons_zero, List.replicate, ite_and', ite_or', ite_int', nI_leI, nI_ltI, nI_eq, nI_add, nI_1, pk_mul, nI_clamp, n_in', nI_pos', nI_pos, n_m1e, n_01, n_10, sT_98, sT_99, sT_100, sT_101, sT_102, sT_103, sT_104, sT_105, sT_106, sT_107, sT_108, sT_109, sT_110, sT_111, sT_112, sT_113, sT_114, sT_115, sT_116, sT_117, sT_118, sT_119, sT_120, sT_121, sT_122, sT_123, sT_124, sT_125, sT_126, sT_127, sT_128, sT_129, sT_130, sT_131, sT_132, sT_133, sT_134, sT_135, sT_136, sT_137, sT_138, sT_139, sT_140, sR_98_1, sR_98_4, sR_98_5, sR_98_6, sR_98_7, sR_98_8, sR_98_9, sR_98_10, sR_98_12, sR_98_13, sR_98_14, sR_98_15, sR_98_16, sR_98_17, sR_98_18, sR_98_19, sR_98_20, sR_98_21, sR_98_22, sR_98_23, sR_98_24, sR_98_25, sR_98_26, sR_98_27, sR_98_28, sR_98_29, sR_98_31, sR_98_34, sR_98_35, sR_98_36, sR_98_42, sR_98_44, sR_98_45, sR_98_47, sR_98_49, sR_98_51, sR_98_56, sR_98_58, sR_98_62, sR_98_65, sR_98_66, sR_98_69, hh0, q11, ei, d1, d2, ea, eb, hab, d3])
  obtain ⟨ia, ja⟩ := isOf_iO w ha
  obtain ⟨ib, jb1⟩ := isOf_iO w hb
  have ia31 : ∀ n, iO a = some n → n < 2 ^ 31 := fun n hn => by have := (ja n hn).1; omega
  have ib31 : ∀ n, iO b = some n → n < 2 ^ 31 := fun n hn => by have := (jb1 n hn).1; omega
  have hpr := fun i hi => pr_31 w (c := c) (i := i) hi
  have hpok : PRok A c (iO a, iO b) := by
    refine ⟨fun q => hab ?_, ja, jb1⟩
    have q1 : iO a = none := congrArg Prod.fst q
    have q2 : iO b = none := congrArg Prod.snd q
    rw [ia, ib, q1, q2]
    exact ⟨rfl, rfl⟩
  generalize hoa : iO a = oa at *
  generalize hob : iO b = ob at *
  subst ia
  subst ib
  have hmem : ((oa, ob) ∈ aPl A c) ↔ fst1 (fun k => (aPl A c).getD k (none, none) == (oa, ob)) (aPl A c).length ≠ none := by
    constructor
    · intro hm q
      obtain ⟨i, hi, e⟩ := List.mem_iff_getElem.mp hm
      have := fst1_none q i hi
      rw [List.getD_eq_getElem?_getD, List.getElem?_eq_getElem hi] at this
      simp [e] at this
    · intro hne
      cases hf : fst1 (fun k => (aPl A c).getD k (none, none) == (oa, ob)) (aPl A c).length with
      | none => exact absurd hf hne
      | some i =>
        obtain ⟨g1, g2, -⟩ := fst1_some hf
        have g3 : (aPl A c).getD i (none, none) = (oa, ob) := by simpa using g2
        rw [← g3]
        exact getD_mem' g1
  have hL := loop_1 (lb := 1) (lc := 2) (c := lc_M_pair_1) (b := lb_M_pair_1) (u := lu_M_pair_1) (aPl A c).length (fun i => (([.ref 98, .int (nI c), .int (oI oa), .int (oI ob), .int (nI i)], h0) : jS)) (fun k => (aPl A c).getD k (none, none) == (oa, ob)) (fun i => (.inr (some (.int (-1))), ([.ref 98, .int (nI c), .int (oI oa), .int (oI ob), .int (nI i)], h0)))
    (fun i hi hz => by
      obtain ⟨e3, e4⟩ := d4 i hi
      rw [beq_iff_eq] at hz
      rw [hz] at e3 e4
      simp (disch := first | assumption | omega) [lstp, lc_M_pair_1, lb_M_pair_1, lu_M_pair_1, j_meth, j_out, j_rok, j_pad, lg_sl, s_seq_w, isN_inl, isN_inr, s_if, jb, x_c, x_iloc, x_aloc, x_lloc, x_bin, x_un, o_add, o_sub, o_mul, o_and, o_or, o_xor, o_shl, o_shr, o_ushr, o_max, o_min, o_i2b, o_i2c, o_i2l, o_l2i, x_fld, j_fget, x_idx, j_aget, x_len, j_alen, x_ofb, x_ite, xs_nil, xs_cons, x_callv, x_calls, s_callv, s_calls, j_recv, j_ret, j_retv, b_cmp, b_and, b_or, b_not, b_ofi, b_ite, b_true, s_skip, s_set, j_ty, j_lset, j_kill, s_inc, s_fput, j_fput, s_fop, s_aput, j_aput, j_nar, s_aop, s_ret, s_retv, s_go, s_pop, x_linc, x_finc, Value.category, if_icmp.holds, List.flatMap_cons, List.flatMap_nil, List.length_cons, List.length_append, List.length_nil, List.set_cons_succ, List.set_cons_zero, List.getElem?_cons_succ, List.getElem?_cons_zero, List.replicate, ite_and', ite_or', ite_int', nI_leI, nI_ltI, nI_eq, nI_add, nI_1, pk_mul, nI_clamp, n_in', nI_pos', nI_pos, n_m1e, n_01, n_10, sT_98, sT_99, sT_100, sT_101, sT_102, sT_103, sT_104, sT_105, sT_106, sT_107, sT_108, sT_109, sT_110, sT_111, sT_112, sT_113, sT_114, sT_115, sT_116, sT_117, sT_118, sT_119, sT_120, sT_121, sT_122, sT_123, sT_124, sT_125, sT_126, sT_127, sT_128, sT_129, sT_130, sT_131, sT_132, sT_133, sT_134, sT_135, sT_136, sT_137, sT_138, sT_139, sT_140, sR_98_1, sR_98_4, sR_98_5, sR_98_6, sR_98_7, sR_98_8, sR_98_9, sR_98_10, sR_98_12, sR_98_13, sR_98_14, sR_98_15, sR_98_16, sR_98_17, sR_98_18, sR_98_19, sR_98_20, sR_98_21, sR_98_22, sR_98_23, sR_98_24, sR_98_25, sR_98_26, sR_98_27, sR_98_28, sR_98_29, sR_98_31, sR_98_34, sR_98_35, sR_98_36, sR_98_42, sR_98_44, sR_98_45, sR_98_47, sR_98_49, sR_98_51, sR_98_56, sR_98_58, sR_98_62, sR_98_65, sR_98_66, sR_98_69, d3, hi, e3, e4])
    (fun i hi hz => by
      obtain ⟨e3, e4⟩ := d4 i hi
      obtain ⟨p1, p2⟩ := hpr i hi
      have hne : ¬ (aPl A c).getD i (none, none) = (oa, ob) := by simpa using hz
      generalize (aPl A c).getD i (none, none) = z at *
      by_cases hz1 : oI z.1 = oI oa
      · have hz2 : ¬ oI z.2 = oI ob := fun q => hne (Prod.ext ((oI_inj p1 ia31).mp hz1) ((oI_inj p2 ib31).mp q))
        simp (disch := first | assumption | omega) [lstp, lc_M_pair_1, lb_M_pair_1, lu_M_pair_1, j_meth, j_out, j_rok, j_pad, lg_sl, s_seq_w, isN_inl, isN_inr, s_if, jb, x_c, x_iloc, x_aloc, x_lloc, x_bin, x_un, o_add, o_sub, o_mul, o_and, o_or, o_xor, o_shl, o_shr, o_ushr, o_max, o_min, o_i2b, o_i2c, o_i2l, o_l2i, x_fld, j_fget, x_idx, j_aget, x_len, j_alen, x_ofb, x_ite, xs_nil, xs_cons, x_callv, x_calls, s_callv, s_calls, j_recv, j_ret, j_retv, b_cmp, b_and, b_or, b_not, b_ofi, b_ite, b_true, s_skip, s_set, j_ty, j_lset, j_kill, s_inc, s_fput, j_fput, s_fop, s_aput, j_aput, j_nar, s_aop, s_ret, s_retv, s_go, s_pop, x_linc, x_finc, Value.category, if_icmp.holds, List.flatMap_cons, List.flatMap_nil, List.length_cons, List.length_append, List.length_nil, List.set_cons_succ, List.set_cons_zero, List.getElem?_cons_succ, List.getElem?_cons_zero, List.replicate, ite_and', ite_or', ite_int', nI_leI, nI_ltI, nI_eq, nI_add, nI_1, pk_mul, nI_clamp, n_in', nI_pos', nI_pos, n_m1e, n_01, n_10, sT_98, sT_99, sT_100, sT_101, sT_102, sT_103, sT_104, sT_105, sT_106, sT_107, sT_108, sT_109, sT_110, sT_111, sT_112, sT_113, sT_114, sT_115, sT_116, sT_117, sT_118, sT_119, sT_120, sT_121, sT_122, sT_123, sT_124, sT_125, sT_126, sT_127, sT_128, sT_129, sT_130, sT_131, sT_132, sT_133, sT_134, sT_135, sT_136, sT_137, sT_138, sT_139, sT_140, sR_98_1, sR_98_4, sR_98_5, sR_98_6, sR_98_7, sR_98_8, sR_98_9, sR_98_10, sR_98_12, sR_98_13, sR_98_14, sR_98_15, sR_98_16, sR_98_17, sR_98_18, sR_98_19, sR_98_20, sR_98_21, sR_98_22, sR_98_23, sR_98_24, sR_98_25, sR_98_26, sR_98_27, sR_98_28, sR_98_29, sR_98_31, sR_98_34, sR_98_35, sR_98_36, sR_98_42, sR_98_44, sR_98_45, sR_98_47, sR_98_49, sR_98_51, sR_98_56, sR_98_58, sR_98_62, sR_98_65, sR_98_66, sR_98_69, d3, hi, e3, e4, hz1, hz2]
      · simp (disch := first | assumption | omega) [lstp, lc_M_pair_1, lb_M_pair_1, lu_M_pair_1, j_meth, j_out, j_rok, j_pad, lg_sl, s_seq_w, isN_inl, isN_inr, s_if, jb, x_c, x_iloc, x_aloc, x_lloc, x_bin, x_un, o_add, o_sub, o_mul, o_and, o_or, o_xor, o_shl, o_shr, o_ushr, o_max, o_min, o_i2b, o_i2c, o_i2l, o_l2i, x_fld, j_fget, x_idx, j_aget, x_len, j_alen, x_ofb, x_ite, xs_nil, xs_cons, x_callv, x_calls, s_callv, s_calls, j_recv, j_ret, j_retv, b_cmp, b_and, b_or, b_not, b_ofi, b_ite, b_true, s_skip, s_set, j_ty, j_lset, j_kill, s_inc, s_fput, j_fput, s_fop, s_aput, j_aput, j_nar, s_aop, s_ret, s_retv, s_go, s_pop, x_linc, x_finc, Value.category, if_icmp.holds, List.flatMap_cons, List.flatMap_nil, List.length_cons, List.length_append, List.length_nil, List.set_cons_succ, List.set_cons_zero, List.getElem?_cons_succ, List.getElem?_cons_zero, List.replicate, ite_and', ite_or', ite_int', nI_leI, nI_ltI, nI_eq, nI_add, nI_1, pk_mul, nI_clamp, n_in', nI_pos', nI_pos, n_m1e, n_01, n_10, sT_98, sT_99, sT_100, sT_101, sT_102, sT_103, sT_104, sT_105, sT_106, sT_107, sT_108, sT_109, sT_110, sT_111, sT_112, sT_113, sT_114, sT_115, sT_116, sT_117, sT_118, sT_119, sT_120, sT_121, sT_122, sT_123, sT_124, sT_125, sT_126, sT_127, sT_128, sT_129, sT_130, sT_131, sT_132, sT_133, sT_134, sT_135, sT_136, sT_137, sT_138, sT_139, sT_140, sR_98_1, sR_98_4, sR_98_5, sR_98_6, sR_98_7, sR_98_8, sR_98_9, sR_98_10, sR_98_12, sR_98_13, sR_98_14, sR_98_15, sR_98_16, sR_98_17, sR_98_18, sR_98_19, sR_98_20, sR_98_21, sR_98_22, sR_98_23, sR_98_24, sR_98_25, sR_98_26, sR_98_27, sR_98_28, sR_98_29, sR_98_31, sR_98_34, sR_98_35, sR_98_36, sR_98_42, sR_98_44, sR_98_45, sR_98_47, sR_98_49, sR_98_51, sR_98_56, sR_98_58, sR_98_62, sR_98_65, sR_98_66, sR_98_69, d3, hi, e3, e4, hz1])
    (by simp (disch := first | assumption | omega) [lstp, lc_M_pair_1, lb_M_pair_1, lu_M_pair_1, j_meth, j_out, j_rok, j_pad, lg_sl, s_seq_w, isN_inl, isN_inr, s_if, jb, x_c, x_iloc, x_aloc, x_lloc, x_bin, x_un, o_add, o_sub, o_mul, o_and, o_or, o_xor, o_shl, o_shr, o_ushr, o_max, o_min, o_i2b, o_i2c, o_i2l, o_l2i, x_fld, j_fget, x_idx, j_aget, x_len, j_alen, x_ofb, x_ite, xs_nil, xs_cons, x_callv, x_calls, s_callv, s_calls, j_recv, j_ret, j_retv, b_cmp, b_and, b_or, b_not, b_ofi, b_ite, b_true, s_skip, s_set, j_ty, j_lset, j_kill, s_inc, s_fput, j_fput, s_fop, s_aput, j_aput, j_nar, s_aop, s_ret, s_retv, s_go, s_pop, x_linc, x_finc, Value.category, if_icmp.holds, List.flatMap_cons, List.flatMap_nil, List.length_cons, List.length_append, List.length_nil, List.set_cons_succ, List.set_cons_zero, List.getElem?_cons_succ, List.getElem?_cons_zero, List.replicate, ite_and', ite_or', ite_int', nI_leI, nI_ltI, nI_eq, nI_add, nI_1, pk_mul, nI_clamp, n_in', nI_pos', nI_pos, n_m1e, n_01, n_10, sT_98, sT_99, sT_100, sT_101, sT_102, sT_103, sT_104, sT_105, sT_106, sT_107, sT_108, sT_109, sT_110, sT_111, sT_112, sT_113, sT_114, sT_115, sT_116, sT_117, sT_118, sT_119, sT_120, sT_121, sT_122, sT_123, sT_124, sT_125, sT_126, sT_127, sT_128, sT_129, sT_130, sT_131, sT_132, sT_133, sT_134, sT_135, sT_136, sT_137, sT_138, sT_139, sT_140, sR_98_1, sR_98_4, sR_98_5, sR_98_6, sR_98_7, sR_98_8, sR_98_9, sR_98_10, sR_98_12, sR_98_13, sR_98_14, sR_98_15, sR_98_16, sR_98_17, sR_98_18, sR_98_19, sR_98_20, sR_98_21, sR_98_22, sR_98_23, sR_98_24, sR_98_25, sR_98_26, sR_98_27, sR_98_28, sR_98_29, sR_98_31, sR_98_34, sR_98_35, sR_98_36, sR_98_42, sR_98_44, sR_98_45, sR_98_47, sR_98_49, sR_98_51, sR_98_56, sR_98_58, sR_98_62, sR_98_65, sR_98_66, sR_98_69, d3])
  cases hf : fst1 (fun k => (aPl A c).getD k (none, none) == (oa, ob)) (aPl A c).length with
  | some i =>
    rw [hf] at hL
    have hm := hmem.mpr (by rw [hf]; simp)
    refine bad (fun q => ?_) ?_
    · have := q.2.2.2.2.2
      rw [cc, hoa, hob] at this
      exact this hm
    · simp (disch := first | assumption | omega) [f_M_pair, body_M_pair, j_meth, j_out, j_rok, j_pad, lg_sl, s_seq_w, isN_inl, isN_inr, s_if, jb, x_c, x_iloc, x_aloc, x_lloc, x_bin, x_un, o_add, o_sub, o_mul, o_and, o_or, o_xor, o_shl, o_shr, o_ushr, o_max, o_min, o_i2b, o_i2c, o_i2l, o_l2i, x_fld, j_fget, x_idx, j_aget, x_len, j_alen, x_ofb, x_ite, xs_nil, xs_cons, x_callv, x_calls, s_callv, s_calls, j_recv, j_ret, j_retv, b_cmp, b_and, b_or, b_not, b_ofi, b_ite, b_true, s_skip, s_set, j_ty, j_lset, j_kill, s_inc, s_fput, j_fput, s_fop, s_aput, j_aput, j_nar, s_aop, s_ret, s_retv, s_go, s_pop, x_linc, x_finc, Value.category, if_icmp.holds, List.flatMap_cons, List.flatMap_nil, List.length_cons, List.length_append, List.length_nil, List.set_cons_succ, List.set_cons_zero, List.getElem?_cons_succ, List.getElem?_cons_zero, List.replicate, ite_and', ite_or', ite_int', nI_leI, nI_ltI, nI_eq, nI_add, nI_1, pk_mul, nI_clamp, n_in', nI_pos', nI_pos, n_m1e, n_01, n_10, sT_98, sT_99, sT_100, sT_101, sT_102, sT_103, sT_104, sT_105, sT_106, sT_107, sT_108, sT_109, sT_110, sT_111, sT_112, sT_113, sT_114, sT_115, sT_116, sT_117, sT_118, sT_119, sT_120, sT_121, sT_122, sT_123, sT_124, sT_125, sT_126, sT_127, sT_128, sT_129, sT_130, sT_131, sT_132, sT_133, sT_134, sT_135, sT_136, sT_137, sT_138, sT_139, sT_140, sR_98_1, sR_98_4, sR_98_5, sR_98_6, sR_98_7, sR_98_8, sR_98_9, sR_98_10, sR_98_12, sR_98_13, sR_98_14, sR_98_15, sR_98_16, sR_98_17, sR_98_18, sR_98_19, sR_98_20, sR_98_21, sR_98_22, sR_98_23, sR_98_24, sR_98_25, sR_98_26, sR_98_27, sR_98_28, sR_98_29, sR_98_31, sR_98_34, sR_98_35, sR_98_36, sR_98_42, sR_98_44, sR_98_45, sR_98_47, sR_98_49, sR_98_51, sR_98_56, sR_98_58, sR_98_62, sR_98_65, sR_98_66, sR_98_69, hh0, q11, ei, d1, d2, ea, eb, hab, d3, h8, hL]
  | none =>
    rw [hf] at hL
    have hnm : (oa, ob) ∉ aPl A c := fun q => (hmem.mp q) hf
    have hv : vPair A (nI c) (oI oa) (oI ob) = (nI ((aPl A c).length + 1), aPair A c (aPl A c ++ [(oa, ob)])) := by
      have : prOk A (nI c) (oI oa) (oI ob) := ⟨hx, by rw [cc]; exact ha, by rw [cc]; exact hb, hab, by rw [cc]; exact h8, by rw [cc, hoa, hob]; exact hnm⟩
      unfold vPair
      rw [if_pos this, cc, hoa, hob]
    rw [hv]
    have w' := WF_pair w hc hpok h8 hnm
    generalize hll : aPl A c = l at *
    have f1 : Fr (fun u k => ((u = 109 ∨ u = 110) ∧ k = 8 * c + l.length) ∨ (u = 111 ∧ k = c)) h0 (hSetI (hSetI (hSetI h0 109 (8 * c + l.length) (oI oa)) 110 (8 * c + l.length) (oI ob)) 111 c (nI (l.length + 1))) := Fr_trans (Fr_trans (Fr_set _ (Or.inl ⟨Or.inl rfl, rfl⟩)) (Fr_set _ (Or.inl ⟨Or.inr rfl, rfl⟩))) (Fr_set _ (Or.inr ⟨rfl, rfl⟩))
    have c1 : hI (hSetI (hSetI (hSetI h0 109 (8 * c + l.length) (oI oa)) 110 (8 * c + l.length) (oI ob)) 111 c (nI (l.length + 1))) 111 c = nI (l.length + 1) := by rw [hI_setI, if_pos ⟨rfl, rfl⟩]
    have c2 : hI (hSetI (hSetI (hSetI h0 109 (8 * c + l.length) (oI oa)) 110 (8 * c + l.length) (oI ob)) 111 c (nI (l.length + 1))) 109 (8 * c + l.length) = oI oa := by rw [hI_setI, if_neg (by omega), hI_setI, if_neg (by omega), hI_setI, if_pos ⟨rfl, rfl⟩]
    have c3 : hI (hSetI (hSetI (hSetI h0 109 (8 * c + l.length) (oI oa)) 110 (8 * c + l.length) (oI ob)) 111 c (nI (l.length + 1))) 110 (8 * c + l.length) = oI ob := by rw [hI_setI, if_neg (by omega), hI_setI, if_pos ⟨rfl, rfl⟩]
    have e1 : hI (hSetI h0 109 (8 * c + l.length) (oI oa)) 111 c = nI l.length := by rw [hI_setI, if_neg (by omega)]; exact d3
    have e2 : hI (hSetI (hSetI h0 109 (8 * c + l.length) (oI oa)) 110 (8 * c + l.length) (oI ob)) 111 c = nI l.length := by rw [hI_setI, if_neg (by omega)]; exact e1
    have hs1 : Shape (hSetI h0 109 (8 * c + l.length) (oI oa)) := Fr_shape (W := fun a k => True) hs0 (Fr_set _ trivial)
    have hs2 : Shape (hSetI (hSetI h0 109 (8 * c + l.length) (oI oa)) 110 (8 * c + l.length) (oI ob)) := Fr_shape (W := fun a k => True) hs1 (Fr_set _ trivial)
    have hs3 := Fr_shape hs0 f1
    refine ⟨hSetI (hSetI (hSetI h0 109 (8 * c + l.length) (oI oa)) 110 (8 * c + l.length) (oI ob)) 111 c (nI (l.length + 1)), ?_, ?_⟩
    · have hlt : 8 * c + l.length < 16 := by omega
      generalize hg1 : hSetI h0 109 (8 * c + l.length) (oI oa) = k1 at *
      generalize hg2 : hSetI k1 110 (8 * c + l.length) (oI ob) = k2 at *
      generalize hg3 : hSetI k2 111 c (nI (l.length + 1)) = k3 at *
      simp (disch := first | assumption | omega) [f_M_pair, body_M_pair, j_meth, j_out, j_rok, j_pad, lg_sl, s_seq_w, isN_inl, isN_inr, s_if, jb, x_c, x_iloc, x_aloc, x_lloc, x_bin, x_un, o_add, o_sub, o_mul, o_and, o_or, o_xor, o_shl, o_shr, o_ushr, o_max, o_min, o_i2b, o_i2c, o_i2l, o_l2i, x_fld, j_fget, x_idx, j_aget, x_len, j_alen, x_ofb, x_ite, xs_nil, xs_cons, x_callv, x_calls, s_callv, s_calls, j_recv, j_ret, j_retv, b_cmp, b_and, b_or, b_not, b_ofi, b_ite, b_true, s_skip, s_set, j_ty, j_lset, j_kill, s_inc, s_fput, j_fput, s_fop, s_aput, j_aput, j_nar, s_aop, s_ret, s_retv, s_go, s_pop, x_linc, x_finc, Value.category, if_icmp.holds, List.flatMap_cons, List.flatMap_nil, List.length_cons, List.length_append, List.length_nil, List.set_cons_succ, List.set_cons_zero, List.getElem?_cons_succ, List.getElem?_cons_zero, List.replicate, ite_and', ite_or', ite_int', nI_leI, nI_ltI, nI_eq, nI_add, nI_1, pk_mul, nI_clamp, n_in', nI_pos', nI_pos, n_m1e, n_01, n_10, sT_98, sT_99, sT_100, sT_101, sT_102, sT_103, sT_104, sT_105, sT_106, sT_107, sT_108, sT_109, sT_110, sT_111, sT_112, sT_113, sT_114, sT_115, sT_116, sT_117, sT_118, sT_119, sT_120, sT_121, sT_122, sT_123, sT_124, sT_125, sT_126, sT_127, sT_128, sT_129, sT_130, sT_131, sT_132, sT_133, sT_134, sT_135, sT_136, sT_137, sT_138, sT_139, sT_140, sR_98_1, sR_98_4, sR_98_5, sR_98_6, sR_98_7, sR_98_8, sR_98_9, sR_98_10, sR_98_12, sR_98_13, sR_98_14, sR_98_15, sR_98_16, sR_98_17, sR_98_18, sR_98_19, sR_98_20, sR_98_21, sR_98_22, sR_98_23, sR_98_24, sR_98_25, sR_98_26, sR_98_27, sR_98_28, sR_98_29, sR_98_31, sR_98_34, sR_98_35, sR_98_36, sR_98_42, sR_98_44, sR_98_45, sR_98_47, sR_98_49, sR_98_51, sR_98_56, sR_98_58, sR_98_62, sR_98_65, sR_98_66, sR_98_69, hh0, q11, ei, d1, d2, ea, eb, hab, d3, h8, hL, hlt, hg1, e1, hg2, e2, hg3, c1]
    · generalize hSetI (hSetI (hSetI h0 109 (8 * c + l.length) (oI oa)) 110 (8 * c + l.length) (oI ob)) 111 c (nI (l.length + 1)) = h2 at *
      obtain ⟨-, -, rp, rb, rl, rc, rch⟩ := k0
      have f2 : Fr (fun u k => W33 u k ∨ ((u = 109 ∨ u = 110) ∧ k = 8 * c + l.length) ∨ (u = 111 ∧ k = c)) h h2 := Fr_trans (Fr_mono f0 fun a k q => Or.inl q) (Fr_mono f1 fun a k q => Or.inr q)
      refine RMX_new r f2 (by unfold cT W33; intro a k; omega) ⟨hs3, w', RMp_c rp (fun a k q => Fr_I f1 (by omega)), RMb_c rb (fun a k q => Fr_I f1 (by omega)), RMl_c rl (fun a k q => Fr_I f1 (by omega)), ⟨by rw [Fr_I f1 (by omega)]; exact rc.1, fun d hd => by rw [Fr_I f1 (by omega), Fr_I f1 (by omega)]; exact rc.2.1 d hd, fun d hd => ?_⟩, RMch_c rch (fun a k q1 q2 => Fr_I f1 (by omega))⟩ (RMT_ag (A := A) w (RMT_fr r0.2.1 f1 (by intro a k q; omega)) rfl fun f hf => ⟨Nat.le_refl _, Nat.le_refl _, fun b _ => ⟨rfl, rfl, rfl, rfl, rfl⟩, fun b h1 h2 => absurd h2 (Nat.not_lt.mpr h1), fun p _ => rfl, rfl⟩)
      show hI h2 111 d = nI (updN (aPl A) c (l ++ [(oa, ob)]) d).length ∧ ∀ k, k < (updN (aPl A) c (l ++ [(oa, ob)]) d).length → hI h2 109 (8 * d + k) = oI ((updN (aPl A) c (l ++ [(oa, ob)]) d).getD k (none, none)).1 ∧ hI h2 110 (8 * d + k) = oI ((updN (aPl A) c (l ++ [(oa, ob)]) d).getD k (none, none)).2
      by_cases e : d = c
      · subst e
        rw [updN_eq, List.length_append, List.length_singleton]
        refine ⟨c1, fun k hk => ?_⟩
        by_cases e2 : k = l.length
        · subst e2; rw [c2, c3]; simp
        · rw [Fr_I f1 (by omega), Fr_I f1 (by omega)]
          have := d4 k (by omega)
          simp only [List.getD_eq_getElem?_getD] at this ⊢
          rw [List.getElem?_append_left (by omega)]
          exact this
      · rw [updN_ne _ _ e]
        have hd8 := (w.2.2.2.2.1.2.2.2 d).2.1
        exact ⟨by rw [Fr_I f1 (by omega)]; exact (rc.2.2 d hd).1, fun k hk => by rw [Fr_I f1 (by omega), Fr_I f1 (by omega)]; exact (rc.2.2 d hd).2 k hk⟩
