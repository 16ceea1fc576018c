theorem Wof_cM : ∀ a k, cM a k → ¬ Wof a k := by
  unfold cM Wof Wmk
  intro a k h1 h2
  omega
theorem oMs_le {A : AS} (w : WF A) {li : Option (Nat × List Nat)} {si mi : Option Nat} (lo : LOk A li si mi) : oMs A (oIni A li si mi) < 36 := by
  have hn := w.1.1
  have h5 : ∀ p, (oRem A li si mi p 0).length ≤ 5 := by
    intro p
    unfold oRem
    split
    · simp
    · have h1 := (oRaw_ok w lo p).1
      have h2 := List.length_filter_le (fun b => some b != mi) ((oRaw A li p).drop 0)
      simp only [List.drop_zero] at h2 ⊢
      omega
  have h1 : oMs A (oIni A li si mi) ≤ sumN (fun _ => 5) (aNp A) := sumN_le fun i _ => h5 i
  have h2 : ∀ n, sumN (fun _ => 5) n = 5 * n := by
    intro n
    induction n with
    | zero => rfl
    | succ n ih => rw [sumN_s, ih]; omega
  rw [h2] at h1
  omega
def vOI (x : Option Nat) : Int32 := match x with
  | some v => nI v
  | none => -3
theorem e_M_outcome {A : AS} {h : jHp} (k : RMK A h) (t : RMT A h) {li : Option (Nat × List Nat)} {si mi : Option Nat} (lo : LOk A li si mi) (ro : ROf li si mi h) :
    ∃ h', f_M_outcome [.ref 98] h = some (some (.int (vOI (sOuV A li si mi))), h') ∧ MW Wof A h h' ∧ hI h' 98 54 = nI (sOut A li si mi).2.2.1 ∧ hI h' 98 55 = nI (sOut A li si mi).2.2.2.1 ∧ (sOut A li si mi).2.1 < 2 ^ 20 := by
  have hs := k.1
  have w := k.2.1
  have hn := w.1.1
  have h20 := w.2.2.1.1
  -- the start
  have hX0 : MW Wof A h (hSetI (hSetI h 98 54 (nI 0)) 98 55 (nI 0)) := MW_step (V := fun a k => a = 98 ∧ (k = 54 ∨ k = 55)) (MW_refl k t) (Fr_trans (Fr_set _ ⟨rfl, Or.inl rfl⟩) (Fr_set _ ⟨rfl, Or.inr rfl⟩)) (by
    intro a k hv
    unfold Wof Wmk cM
    omega)
  have ro0 : ROf li si mi (hSetI (hSetI h 98 54 (nI 0)) 98 55 (nI 0)) := ROf_fr (W := fun a k => a = 98 ∧ (k = 54 ∨ k = 55)) ro (Fr_trans (Fr_set _ ⟨rfl, Or.inl rfl⟩) (Fr_set _ ⟨rfl, Or.inr rfl⟩)) (by intro a k q; omega)
  have g54 : hI (hSetI (hSetI h 98 54 (nI 0)) 98 55 (nI 0)) 98 54 = nI 0 := by rw [hI_setI, if_neg (by omega), hI_setI, if_pos ⟨rfl, rfl⟩]
  have g55 : hI (hSetI (hSetI h 98 54 (nI 0)) 98 55 (nI 0)) 98 55 = nI 0 := by rw [hI_setI, if_pos ⟨rfl, rfl⟩]
  generalize hh0 : hSetI (hSetI h 98 54 (nI 0)) 98 55 (nI 0) = h0 at *
  have hL1 := loop_wp (lb := 1) (lc := 2) (c := lc_M_outcome_1) (b := lb_M_outcome_1) (u := lu_M_outcome_1) (aNp A)
    (fun i st => ∃ h', st = ([.ref 98, .int (nI 0), .int (nI 0), .int (nI i), .null, .null], h') ∧ Fr W135 h0 h' ∧ ∀ p, p < i → hI h' 135 p = nI 0)
    (fun r => ∃ h', r = (.inl 0, ([.ref 98, .int (nI 0), .int (nI 0), .int (nI (aNp A)), .null, .null], h')) ∧ Fr W135 h0 h' ∧ ∀ p, p < aNp A → hI h' 135 p = nI 0)
    ?_ ?_ ([.ref 98, .int (nI 0), .int (nI 0), .int (nI 0), .null, .null], h0) ⟨h0, rfl, Fr_refl _ _, fun p hp => by cases hp⟩
  rotate_left
  · rintro i st hi ⟨h1, rfl, p1, p2⟩
    left
    have k1 := (MW_135 hX0 p1).2.1
    have hs1 := k1.1
    have q0 := k1.2.2.1.1
    refine ⟨([.ref 98, .int (nI 0), .int (nI 0), .int (nI (i + 1)), .null, .null], hSetI h1 135 i (nI 0)), ?_, _, rfl, Fr_trans p1 (Fr_set _ rfl), fun p hp => ?_⟩
    · simp (disch := first | assumption | omega) [lstp, lc_M_outcome_1, lb_M_outcome_1, lu_M_outcome_1, j_meth, j_out, j_rok, j_pad, lg_sl, s_seq_w, isN_inl, isN_inr, s_if, jb, x_c, x_iloc, x_aloc, x_lloc, x_bin, x_un, o_add, o_sub, o_mul, o_and, o_or, o_xor, o_shl, o_shr, o_ushr, o_max, o_min, o_i2b, o_i2c, o_i2l, o_l2i, x_fld, j_fget, x_idx, j_aget, x_len, j_alen, x_ofb, x_ite, xs_nil, xs_cons, x_callv, x_calls, s_callv, s_calls, j_recv, j_ret, j_retv, b_cmp, b_and, b_or, b_not, b_ofi, b_ite, b_true, s_skip, s_set, j_ty, j_lset, j_kill, s_inc, s_fput, j_fput, s_fop, s_aput, j_aput, j_nar, s_aop, s_ret, s_retv, s_go, s_pop, x_linc, x_finc, Value.category, if_icmp.holds, List.flatMap_cons, List.flatMap_nil, List.length_cons, List.length_append, List.length_nil, List.set_cons_succ, List.set_cons_zero, List.getElem?_cons_succ, List.getElem?_cons_zero, List.replicate, ite_and', ite_or', ite_int', nI_leI, nI_ltI, nI_eq, nI_add, nI_1, pk_mul, nI_clamp, n_in', nI_pos', nI_pos, n_m1e, n_01, n_10, sT_98, sT_99, sT_100, sT_101, sT_102, sT_103, sT_104, sT_105, sT_106, sT_107, sT_108, sT_109, sT_110, sT_111, sT_112, sT_113, sT_114, sT_115, sT_116, sT_117, sT_118, sT_119, sT_120, sT_121, sT_122, sT_123, sT_124, sT_125, sT_126, sT_127, sT_128, sT_129, sT_130, sT_131, sT_132, sT_133, sT_134, sT_135, sT_136, sT_137, sT_138, sT_139, sT_140, sR_98_1, sR_98_4, sR_98_5, sR_98_6, sR_98_7, sR_98_8, sR_98_9, sR_98_10, sR_98_12, sR_98_13, sR_98_14, sR_98_15, sR_98_16, sR_98_17, sR_98_18, sR_98_19, sR_98_20, sR_98_21, sR_98_22, sR_98_23, sR_98_24, sR_98_25, sR_98_26, sR_98_27, sR_98_28, sR_98_29, sR_98_31, sR_98_34, sR_98_35, sR_98_36, sR_98_42, sR_98_44, sR_98_45, sR_98_47, sR_98_49, sR_98_51, sR_98_56, sR_98_58, sR_98_62, sR_98_65, sR_98_66, sR_98_69, hs1, q0, hi]
    · rw [hI_setI]
      by_cases e : p = i
      · rw [if_pos ⟨rfl, e⟩]
      · rw [if_neg (by omega)]; exact p2 p (by omega)
  · rintro st ⟨h1, rfl, p1, p2⟩
    have k1 := (MW_135 hX0 p1).2.1
    have hs1 := k1.1
    have q0 := k1.2.2.1.1
    refine ⟨_, ?_, h1, rfl, p1, p2⟩
    simp (disch := first | assumption | omega) [lstp, lc_M_outcome_1, lb_M_outcome_1, lu_M_outcome_1, j_meth, j_out, j_rok, j_pad, lg_sl, s_seq_w, isN_inl, isN_inr, s_if, jb, x_c, x_iloc, x_aloc, x_lloc, x_bin, x_un, o_add, o_sub, o_mul, o_and, o_or, o_xor, o_shl, o_shr, o_ushr, o_max, o_min, o_i2b, o_i2c, o_i2l, o_l2i, x_fld, j_fget, x_idx, j_aget, x_len, j_alen, x_ofb, x_ite, xs_nil, xs_cons, x_callv, x_calls, s_callv, s_calls, j_recv, j_ret, j_retv, b_cmp, b_and, b_or, b_not, b_ofi, b_ite, b_true, s_skip, s_set, j_ty, j_lset, j_kill, s_inc, s_fput, j_fput, s_fop, s_aput, j_aput, j_nar, s_aop, s_ret, s_retv, s_go, s_pop, x_linc, x_finc, Value.category, if_icmp.holds, List.flatMap_cons, List.flatMap_nil, List.length_cons, List.length_append, List.length_nil, List.set_cons_succ, List.set_cons_zero, List.getElem?_cons_succ, List.getElem?_cons_zero, List.replicate, ite_and', ite_or', ite_int', nI_leI, nI_ltI, nI_eq, nI_add, nI_1, pk_mul, nI_clamp, n_in', nI_pos', nI_pos, n_m1e, n_01, n_10, sT_98, sT_99, sT_100, sT_101, sT_102, sT_103, sT_104, sT_105, sT_106, sT_107, sT_108, sT_109, sT_110, sT_111, sT_112, sT_113, sT_114, sT_115, sT_116, sT_117, sT_118, sT_119, sT_120, sT_121, sT_122, sT_123, sT_124, sT_125, sT_126, sT_127, sT_128, sT_129, sT_130, sT_131, sT_132, sT_133, sT_134, sT_135, sT_136, sT_137, sT_138, sT_139, sT_140, sR_98_1, sR_98_4, sR_98_5, sR_98_6, sR_98_7, sR_98_8, sR_98_9, sR_98_10, sR_98_12, sR_98_13, sR_98_14, sR_98_15, sR_98_16, sR_98_17, sR_98_18, sR_98_19, sR_98_20, sR_98_21, sR_98_22, sR_98_23, sR_98_24, sR_98_25, sR_98_26, sR_98_27, sR_98_28, sR_98_29, sR_98_31, sR_98_34, sR_98_35, sR_98_36, sR_98_42, sR_98_44, sR_98_45, sR_98_47, sR_98_49, sR_98_51, sR_98_56, sR_98_58, sR_98_62, sR_98_65, sR_98_66, sR_98_69, hs1, q0]
  obtain ⟨r, hl1, h1, rfl, f1, z1⟩ := hL1
  have hX1 := MW_135 hX0 f1
  have ro1 := ROf_fr ro0 f1 (by unfold W135; intro a k q; omega)
  have i54 : hI h1 98 54 = nI 0 := by rw [Fr_I f1 (by simp [W135])]; exact g54
  have i55 : hI h1 98 55 = nI 0 := by rw [Fr_I f1 (by simp [W135])]; exact g55
  have hX := loop_ind (lb := 3) (lc := 4) (c := lc_M_outcome_2) (b := lb_M_outcome_2) (u := lu_M_outcome_2) (fun (t : OS × jHp × Value × Value × Value) => (([.ref 98, .int (nI t.1.1), .int (nI t.1.2.1), t.2.2.1, t.2.2.2.1, t.2.2.2.2], t.2.1) : jS))
    (fun t => MW Wof A h t.2.1 ∧ ROf li si mi t.2.1 ∧ t.1.1 < 2 ^ 20 ∧ t.1.2.1 < 2 ^ 20 ∧ (∀ p, p < aNp A → RQ A li si mi t.2.1 p (t.1.2.2.2.2 p)) ∧ hI t.2.1 98 54 = nI t.1.2.2.1 ∧ hI t.2.1 98 55 = nI t.1.2.2.2.1 ∧ ∃ n, oMs A t.1 < n ∧ sOut A li si mi = oRun A n t.1)
    (fun _ r => ∃ h' v3 v4 v5 ev, r = (.inl 0, ([.ref 98, .int (nI ev), .int (nI (sOut A li si mi).2.1), v3, v4, v5], h')) ∧ MW Wof A h h' ∧ hI h' 98 54 = nI (sOut A li si mi).2.2.1 ∧ hI h' 98 55 = nI (sOut A li si mi).2.2.2.1 ∧ (sOut A li si mi).2.1 < 2 ^ 20)
    (fun t => oMs A t.1) ?_ (oIni A li si mi, h1, .int (nI (aNp A)), .null, .null) ⟨hX1, ro1, by show (0 : Nat) < 2 ^ 20; decide, by show (0 : Nat) < 2 ^ 20; decide, fun p hp => ⟨0, Nat.zero_le _, z1 p hp, rfl⟩, i54, i55, 36, oMs_le w lo, rfl⟩
  · obtain ⟨r, hl2, h2, v3, v4, v5, ev, rfl, hX2, j54, j55, hlt⟩ := hX
    refine ⟨h2, ?_, hX2, j54, j55, hlt⟩
    have k2 := hX2.2.1
    have hs2 := k2.1
    have ep := e_M_peopleOf h2 hs2 (S := (sOut A li si mi).2.1) (nb := aNb A) (aPe A) (by omega) h20 k2.2.2.2.1.2.1 (fun b hb => ⟨(k2.2.2.2.1.2.2 b hb).1, by have := (w.2.2.1.2.1 b hb).1; omega⟩)
    have hpl := sPpl_lt w (sOut A li si mi).2.1
    have hpd : pplOf (aPe A) (sOut A li si mi).2.1 (aNb A) = sPpl A (sOut A li si mi).2.1 := rfl
    rw [hpd] at ep
    have em1 := e_M_many h2 (x := sPpl A (sOut A li si mi).2.1) (by omega)
    have em2 := e_M_many h2 (x := (sOut A li si mi).2.1) (by omega)
    have hp1 := popN_le 32 (sPpl A (sOut A li si mi).2.1)
    have hp2 := popN_le 32 (sOut A li si mi).2.1
    have hini : (oIni A li si mi).1 = 0 ∧ (oIni A li si mi).2.1 = 0 := ⟨rfl, rfl⟩
    simp only [hini] at hl2
    unfold sOuV
    generalize (sOut A li si mi).2.1 = hd at *
    have hh0' : hSetI (hSetI h 98 54 0) 98 55 0 = h0 := by rw [← hh0]; simp only [nI_0]
    simp only [nI_0] at hl1 hl2
    by_cases hq : popN 32 (sPpl A hd) = popN 32 hd
    · simp (disch := first | assumption | omega) [f_M_outcome, body_M_outcome, j_meth, j_out, j_rok, j_pad, lg_sl, s_seq_w, isN_inl, isN_inr, s_if, jb, x_c, x_iloc, x_aloc, x_lloc, x_bin, x_un, o_add, o_sub, o_mul, o_and, o_or, o_xor, o_shl, o_shr, o_ushr, o_max, o_min, o_i2b, o_i2c, o_i2l, o_l2i, x_fld, j_fget, x_idx, j_aget, x_len, j_alen, x_ofb, x_ite, xs_nil, xs_cons, x_callv, x_calls, s_callv, s_calls, j_recv, j_ret, j_retv, b_cmp, b_and, b_or, b_not, b_ofi, b_ite, b_true, s_skip, s_set, j_ty, j_lset, j_kill, s_inc, s_fput, j_fput, s_fop, s_aput, j_aput, j_nar, s_aop, s_ret, s_retv, s_go, s_pop, x_linc, x_finc, Value.category, if_icmp.holds, List.flatMap_cons, List.flatMap_nil, List.length_cons, List.length_append, List.length_nil, List.set_cons_succ, List.set_cons_zero, List.getElem?_cons_succ, List.getElem?_cons_zero, List.replicate, ite_and', ite_or', ite_int', nI_leI, nI_ltI, nI_eq, nI_add, nI_1, pk_mul, nI_clamp, n_in', nI_pos', nI_pos, n_m1e, n_01, n_10, sT_98, sT_99, sT_100, sT_101, sT_102, sT_103, sT_104, sT_105, sT_106, sT_107, sT_108, sT_109, sT_110, sT_111, sT_112, sT_113, sT_114, sT_115, sT_116, sT_117, sT_118, sT_119, sT_120, sT_121, sT_122, sT_123, sT_124, sT_125, sT_126, sT_127, sT_128, sT_129, sT_130, sT_131, sT_132, sT_133, sT_134, sT_135, sT_136, sT_137, sT_138, sT_139, sT_140, sR_98_1, sR_98_4, sR_98_5, sR_98_6, sR_98_7, sR_98_8, sR_98_9, sR_98_10, sR_98_12, sR_98_13, sR_98_14, sR_98_15, sR_98_16, sR_98_17, sR_98_18, sR_98_19, sR_98_20, sR_98_21, sR_98_22, sR_98_23, sR_98_24, sR_98_25, sR_98_26, sR_98_27, sR_98_28, sR_98_29, sR_98_31, sR_98_34, sR_98_35, sR_98_36, sR_98_42, sR_98_44, sR_98_45, sR_98_47, sR_98_49, sR_98_51, sR_98_56, sR_98_58, sR_98_62, sR_98_65, sR_98_66, sR_98_69, hs2, nI_0, hI_setI, hI_setJ, hI_setR, hJ_setI, hJ_setJ, hJ_setR, hR_setI, hR_setJ, hR_setR, hT_setI, hT_setJ, hT_setR, hN_setI, hN_setJ, hN_setR, hS_setI, hS_setJ, hS_setR, hh0', hl1, hl2, ep, em1, em2, hq, vOI]
    · simp (disch := first | assumption | omega) [f_M_outcome, body_M_outcome, j_meth, j_out, j_rok, j_pad, lg_sl, s_seq_w, isN_inl, isN_inr, s_if, jb, x_c, x_iloc, x_aloc, x_lloc, x_bin, x_un, o_add, o_sub, o_mul, o_and, o_or, o_xor, o_shl, o_shr, o_ushr, o_max, o_min, o_i2b, o_i2c, o_i2l, o_l2i, x_fld, j_fget, x_idx, j_aget, x_len, j_alen, x_ofb, x_ite, xs_nil, xs_cons, x_callv, x_calls, s_callv, s_calls, j_recv, j_ret, j_retv, b_cmp, b_and, b_or, b_not, b_ofi, b_ite, b_true, s_skip, s_set, j_ty, j_lset, j_kill, s_inc, s_fput, j_fput, s_fop, s_aput, j_aput, j_nar, s_aop, s_ret, s_retv, s_go, s_pop, x_linc, x_finc, Value.category, if_icmp.holds, List.flatMap_cons, List.flatMap_nil, List.length_cons, List.length_append, List.length_nil, List.set_cons_succ, List.set_cons_zero, List.getElem?_cons_succ, List.getElem?_cons_zero, List.replicate, ite_and', ite_or', ite_int', nI_leI, nI_ltI, nI_eq, nI_add, nI_1, pk_mul, nI_clamp, n_in', nI_pos', nI_pos, n_m1e, n_01, n_10, sT_98, sT_99, sT_100, sT_101, sT_102, sT_103, sT_104, sT_105, sT_106, sT_107, sT_108, sT_109, sT_110, sT_111, sT_112, sT_113, sT_114, sT_115, sT_116, sT_117, sT_118, sT_119, sT_120, sT_121, sT_122, sT_123, sT_124, sT_125, sT_126, sT_127, sT_128, sT_129, sT_130, sT_131, sT_132, sT_133, sT_134, sT_135, sT_136, sT_137, sT_138, sT_139, sT_140, sR_98_1, sR_98_4, sR_98_5, sR_98_6, sR_98_7, sR_98_8, sR_98_9, sR_98_10, sR_98_12, sR_98_13, sR_98_14, sR_98_15, sR_98_16, sR_98_17, sR_98_18, sR_98_19, sR_98_20, sR_98_21, sR_98_22, sR_98_23, sR_98_24, sR_98_25, sR_98_26, sR_98_27, sR_98_28, sR_98_29, sR_98_31, sR_98_34, sR_98_35, sR_98_36, sR_98_42, sR_98_44, sR_98_45, sR_98_47, sR_98_49, sR_98_51, sR_98_56, sR_98_58, sR_98_62, sR_98_65, sR_98_66, sR_98_69, hs2, nI_0, hI_setI, hI_setJ, hI_setR, hJ_setI, hJ_setJ, hJ_setR, hR_setI, hR_setJ, hR_setR, hT_setI, hT_setJ, hT_setR, hN_setI, hN_setJ, hN_setR, hS_setI, hS_setJ, hS_setR, hh0', hl1, hl2, ep, em1, em2, hq, vOI]
  · rintro ⟨s, h2, v3, v4, v5⟩ ⟨hX2, ro2, b1, b2, rq, j54, j55, n, hm, hrun⟩
    simp only at hX2 ro2 b1 b2 rq j54 j55 hm hrun ⊢
    obtain ⟨h3, v5', e3, f3, rq3⟩ := e_oc_3 lo hX2 ro2 b1 b2 rq v5
    have hX3 := MW_135 hX2 f3
    have hs2 := hX2.2.1.1
    have hs3 := hX3.2.1.1
    have ro3 := ROf_fr ro2 f3 (by unfold W135; intro a k q; omega)
    have k54 : hI h3 98 54 = nI s.2.2.1 := by rw [Fr_I f3 (by simp [W135])]; exact j54
    have k55 : hI h3 98 55 = nI s.2.2.2.1 := by rw [Fr_I f3 (by simp [W135])]; exact j55
    have hnl := oNow_lt w (s := s) fun p hp b hb => (RQ_mem w lo (rq p hp) b hb).1
    simp only [nI_0] at e3
    cases n with
    | zero => omega
    | succ n =>
      simp only [oRun] at hrun
      by_cases hz : oNow A s = 0
      · right
        rw [if_pos hz] at hrun
        rw [hrun]
        refine ⟨_, ?_, h3, .int 0, .int (nI (aNp A)), v5', s.1, rfl, hX3, k54, k55, b2⟩
        rw [hz, nI_0] at e3
        simp (disch := first | assumption | omega) [lstp, lc_M_outcome_2, lb_M_outcome_2, lu_M_outcome_2, j_meth, j_out, j_rok, j_pad, lg_sl, s_seq_w, isN_inl, isN_inr, s_if, jb, x_c, x_iloc, x_aloc, x_lloc, x_bin, x_un, o_add, o_sub, o_mul, o_and, o_or, o_xor, o_shl, o_shr, o_ushr, o_max, o_min, o_i2b, o_i2c, o_i2l, o_l2i, x_fld, j_fget, x_idx, j_aget, x_len, j_alen, x_ofb, x_ite, xs_nil, xs_cons, x_callv, x_calls, s_callv, s_calls, j_recv, j_ret, j_retv, b_cmp, b_and, b_or, b_not, b_ofi, b_ite, b_true, s_skip, s_set, j_ty, j_lset, j_kill, s_inc, s_fput, j_fput, s_fop, s_aput, j_aput, j_nar, s_aop, s_ret, s_retv, s_go, s_pop, x_linc, x_finc, Value.category, if_icmp.holds, List.flatMap_cons, List.flatMap_nil, List.length_cons, List.length_append, List.length_nil, List.set_cons_succ, List.set_cons_zero, List.getElem?_cons_succ, List.getElem?_cons_zero, List.replicate, ite_and', ite_or', ite_int', nI_leI, nI_ltI, nI_eq, nI_add, nI_1, pk_mul, nI_clamp, n_in', nI_pos', nI_pos, n_m1e, n_01, n_10, sT_98, sT_99, sT_100, sT_101, sT_102, sT_103, sT_104, sT_105, sT_106, sT_107, sT_108, sT_109, sT_110, sT_111, sT_112, sT_113, sT_114, sT_115, sT_116, sT_117, sT_118, sT_119, sT_120, sT_121, sT_122, sT_123, sT_124, sT_125, sT_126, sT_127, sT_128, sT_129, sT_130, sT_131, sT_132, sT_133, sT_134, sT_135, sT_136, sT_137, sT_138, sT_139, sT_140, sR_98_1, sR_98_4, sR_98_5, sR_98_6, sR_98_7, sR_98_8, sR_98_9, sR_98_10, sR_98_12, sR_98_13, sR_98_14, sR_98_15, sR_98_16, sR_98_17, sR_98_18, sR_98_19, sR_98_20, sR_98_21, sR_98_22, sR_98_23, sR_98_24, sR_98_25, sR_98_26, sR_98_27, sR_98_28, sR_98_29, sR_98_31, sR_98_34, sR_98_35, sR_98_36, sR_98_42, sR_98_44, sR_98_45, sR_98_47, sR_98_49, sR_98_51, sR_98_56, sR_98_58, sR_98_62, sR_98_65, sR_98_66, sR_98_69, b_true, nI_0, e3]
      · left
        rw [if_neg hz] at hrun
        have hlt := oMs_lt hz
        have hz' : ¬ nI (oNow A s) = 0 := fun q => hz ((n_eq0 (by omega)).mp q)
        have em := e_M_many (hSetI h3 98 54 (nI (s.2.2.1 + 1))) (x := oNow A s) (by omega)
        have hXa : MW Wof A h (hSetI (hSetI h3 98 54 (nI (s.2.2.1 + 1))) 98 55 (nI (s.2.2.2.1 + popN 32 (oNow A s)))) := MW_step (V := fun a k => a = 98 ∧ (k = 54 ∨ k = 55)) hX3 (Fr_trans (Fr_set _ ⟨rfl, Or.inl rfl⟩) (Fr_set _ ⟨rfl, Or.inr rfl⟩)) (by
          intro a k hv
          unfold Wof Wmk cM
          omega)
        have fa : Fr (fun a k => a = 98 ∧ (k = 54 ∨ k = 55)) h3 (hSetI (hSetI h3 98 54 (nI (s.2.2.1 + 1))) 98 55 (nI (s.2.2.2.1 + popN 32 (oNow A s)))) := Fr_trans (Fr_set _ ⟨rfl, Or.inl rfl⟩) (Fr_set _ ⟨rfl, Or.inr rfl⟩)
        have roa := ROf_fr ro3 fa (by intro a k q; omega)
        have l54 : hI (hSetI (hSetI h3 98 54 (nI (s.2.2.1 + 1))) 98 55 (nI (s.2.2.2.1 + popN 32 (oNow A s)))) 98 54 = nI (s.2.2.1 + 1) := by rw [hI_setI, if_neg (by omega), hI_setI, if_pos ⟨rfl, rfl⟩]
        have l55 : hI (hSetI (hSetI h3 98 54 (nI (s.2.2.1 + 1))) 98 55 (nI (s.2.2.2.1 + popN 32 (oNow A s)))) 98 55 = nI (s.2.2.2.1 + popN 32 (oNow A s)) := by rw [hI_setI, if_pos ⟨rfl, rfl⟩]
        have k135 : ∀ p, hI (hSetI (hSetI h3 98 54 (nI (s.2.2.1 + 1))) 98 55 (nI (s.2.2.2.1 + popN 32 (oNow A s)))) 135 p = hI h3 135 p := fun p => Fr_I fa (by omega)
        have hev : s.1 ||| oNow A s < 2 ^ 20 := Nat.or_lt_two_pow b1 hnl
        generalize hha : hSetI (hSetI h3 98 54 (nI (s.2.2.1 + 1))) 98 55 (nI (s.2.2.2.1 + popN 32 (oNow A s))) = ha at *
        obtain ⟨h4, e4, hX4⟩ := e_oc_4 (A := A) (h0 := ha) (h := ha) (MX_refl hXa.2.1 hXa.2.2) hev (nI (oNow A s)) v5'
        have hX4' := MW_trans hXa (MX_MW hX4 Wof_mk)
        have ro4 := ROf_fr roa hX4.1 (by unfold Wmk; intro a k q; omega)
        refine ⟨(oStp A s, h4, .int (nI (oNow A s)), .int (nI (aNo A)), v5'), ⟨hX4', ro4, hev, oHld_lt w _, ?_, ?_, ?_, n, by simp only; omega, hrun⟩, hlt, ?_, fun r hr => hr⟩
        · intro p hp
          obtain ⟨j, a1, a2, a3⟩ := rq3 p hp
          exact ⟨j, a1, by simp only; rw [Fr_I hX4.1 (by unfold Wmk; omega), k135]; exact a2, a3⟩
        · simp only; rw [Fr_I hX4.1 (by unfold Wmk; omega)]; exact l54
        · simp only; rw [Fr_I hX4.1 (by unfold Wmk; omega)]; exact l55
        · simp only [nI_0] at e4
          simp only [oStp]
          simp (disch := first | assumption | omega) [lstp, lc_M_outcome_2, lb_M_outcome_2, lu_M_outcome_2, j_meth, j_out, j_rok, j_pad, lg_sl, s_seq_w, isN_inl, isN_inr, s_if, jb, x_c, x_iloc, x_aloc, x_lloc, x_bin, x_un, o_add, o_sub, o_mul, o_and, o_or, o_xor, o_shl, o_shr, o_ushr, o_max, o_min, o_i2b, o_i2c, o_i2l, o_l2i, x_fld, j_fget, x_idx, j_aget, x_len, j_alen, x_ofb, x_ite, xs_nil, xs_cons, x_callv, x_calls, s_callv, s_calls, j_recv, j_ret, j_retv, b_cmp, b_and, b_or, b_not, b_ofi, b_ite, b_true, s_skip, s_set, j_ty, j_lset, j_kill, s_inc, s_fput, j_fput, s_fop, s_aput, j_aput, j_nar, s_aop, s_ret, s_retv, s_go, s_pop, x_linc, x_finc, Value.category, if_icmp.holds, List.flatMap_cons, List.flatMap_nil, List.length_cons, List.length_append, List.length_nil, List.set_cons_succ, List.set_cons_zero, List.getElem?_cons_succ, List.getElem?_cons_zero, List.replicate, ite_and', ite_or', ite_int', nI_leI, nI_ltI, nI_eq, nI_add, nI_1, pk_mul, nI_clamp, n_in', nI_pos', nI_pos, n_m1e, n_01, n_10, sT_98, sT_99, sT_100, sT_101, sT_102, sT_103, sT_104, sT_105, sT_106, sT_107, sT_108, sT_109, sT_110, sT_111, sT_112, sT_113, sT_114, sT_115, sT_116, sT_117, sT_118, sT_119, sT_120, sT_121, sT_122, sT_123, sT_124, sT_125, sT_126, sT_127, sT_128, sT_129, sT_130, sT_131, sT_132, sT_133, sT_134, sT_135, sT_136, sT_137, sT_138, sT_139, sT_140, sR_98_1, sR_98_4, sR_98_5, sR_98_6, sR_98_7, sR_98_8, sR_98_9, sR_98_10, sR_98_12, sR_98_13, sR_98_14, sR_98_15, sR_98_16, sR_98_17, sR_98_18, sR_98_19, sR_98_20, sR_98_21, sR_98_22, sR_98_23, sR_98_24, sR_98_25, sR_98_26, sR_98_27, sR_98_28, sR_98_29, sR_98_31, sR_98_34, sR_98_35, sR_98_36, sR_98_42, sR_98_44, sR_98_45, sR_98_47, sR_98_49, sR_98_51, sR_98_56, sR_98_58, sR_98_62, sR_98_65, sR_98_66, sR_98_69, b_true, nI_0, e3, hz', hs3, k54, k55, em, hI_setI, hI_setJ, hI_setR, hJ_setI, hJ_setJ, hJ_setR, hR_setI, hR_setJ, hR_setR, hT_setI, hT_setJ, hT_setR, hN_setI, hN_setJ, hN_setR, hS_setI, hS_setJ, hS_setR, n_or, hha, e4]
