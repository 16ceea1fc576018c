theorem n_e1 : (nI 1 = (1 : Int32)) = True := by decide
theorem sJdg_lt (A : AS) (S : Nat) : (sJdg A S).1 < 5 := by
  unfold sJdg
  split
  · simp
  · split
    · simp
    · split
      · simp
      · split <;> simp
theorem bN0 (b : Bool) : nI b.toNat = if b then nI 1 else 0 := by cases b <;> rfl
theorem nb_z (b : Bool) : (nI b.toNat = 0) = (b = false) := by cases b <;> decide
def RSb (fb : Bool) (l : List Nat) (h : jHp) : Prop := fb = false → RSt l h
theorem e_M_goThrough {A : AS} {h0 : jHp} (fb : Bool) : ∀ n m, n < m → ∀ (p S : Nat) (h : jHp) (l : List Nat) (g : Bool), p + n = aNp A → S < 2 ^ 20 → MW Wgt A h0 h → RSb fb l h → hI h 98 64 = nI g.toNat → (fb = false → l.length + (genL A n p S).length ≤ 12300) →
    ∃ h', f_M_goThrough m [.ref 98, .int (nI p), .int (nI S), .int (nI fb.toNat)] h = some (none, h') ∧ MW Wgt A h0 h' ∧ RSb fb (if fb then l else (genL A n p S).foldl (gtF A) l) h' ∧ hI h' 98 64 = nI (g || (genL A n p S).any (sStd A)).toNat := by
  intro n
  induction n with
  | zero =>
    intro m hm p S h l g hp hS hX rs hg hlen
    cases m with
    | zero => omega
    | succ m =>
    have k := hX.2.1
    have hs := k.1
    have w := k.2.1
    have hn := w.1.1
    have q0 := k.2.2.1.1
    have hpn : aNp A = p := by omega
    rw [hpn] at q0
    by_cases hret : fb = true ∧ g = true
    · obtain ⟨rfl, rfl⟩ := hret
      refine ⟨h, ?_, hX, rs, by simpa using hg⟩
      simp (disch := first | assumption | omega) [f_M_goThrough, body_M_goThrough, j_meth, j_out, j_rok, j_pad, lg_sl, s_seq_w, isN_inl, isN_inr, s_if, jb, x_c, x_iloc, x_aloc, x_lloc, x_bin, x_un, o_add, o_sub, o_mul, o_and, o_or, o_xor, o_shl, o_shr, o_ushr, o_max, o_min, o_i2b, o_i2c, o_i2l, o_l2i, x_fld, j_fget, x_idx, j_aget, x_len, j_alen, x_ofb, x_ite, xs_nil, xs_cons, x_callv, x_calls, s_callv, s_calls, j_recv, j_ret, j_retv, b_cmp, b_and, b_or, b_not, b_ofi, b_ite, b_true, s_skip, s_set, j_ty, j_lset, j_kill, s_inc, s_fput, j_fput, s_fop, s_aput, j_aput, j_nar, s_aop, s_ret, s_retv, s_go, s_pop, x_linc, x_finc, Value.category, if_icmp.holds, List.flatMap_cons, List.flatMap_nil, List.length_cons, List.length_append, List.length_nil, List.set_cons_succ, List.set_cons_zero, List.getElem?_cons_succ, List.getElem?_cons_zero, List.replicate, ite_and', ite_or', ite_int', nI_leI, nI_ltI, nI_eq, nI_add, nI_1, pk_mul, nI_clamp, n_in', nI_pos', nI_pos, n_m1e, n_01, n_10, sT_98, sT_99, sT_100, sT_101, sT_102, sT_103, sT_104, sT_105, sT_106, sT_107, sT_108, sT_109, sT_110, sT_111, sT_112, sT_113, sT_114, sT_115, sT_116, sT_117, sT_118, sT_119, sT_120, sT_121, sT_122, sT_123, sT_124, sT_125, sT_126, sT_127, sT_128, sT_129, sT_130, sT_131, sT_132, sT_133, sT_134, sT_135, sT_136, sT_137, sT_138, sT_139, sT_140, sR_98_1, sR_98_4, sR_98_5, sR_98_6, sR_98_7, sR_98_8, sR_98_9, sR_98_10, sR_98_12, sR_98_13, sR_98_14, sR_98_15, sR_98_16, sR_98_17, sR_98_18, sR_98_19, sR_98_20, sR_98_21, sR_98_22, sR_98_23, sR_98_24, sR_98_25, sR_98_26, sR_98_27, sR_98_28, sR_98_29, sR_98_31, sR_98_34, sR_98_35, sR_98_36, sR_98_42, sR_98_44, sR_98_45, sR_98_47, sR_98_49, sR_98_51, sR_98_56, sR_98_58, sR_98_62, sR_98_65, sR_98_66, sR_98_69, hg, n_10]
    have hno : ¬ (¬ nI fb.toNat = 0 ∧ ¬ hI h 98 64 = 0) := by
      rw [hg, nb_z, nb_z]
      simpa using hret
    obtain ⟨h1, e1, hX1, -⟩ := e_M_judgeOf k hX.2.2 (S := S) (by omega)
    have hX1' := MW_trans hX (MW_mono hX1 Wgt_jd)
    have hs1 := hX1.2.1.1
    have rs1 : RSb fb l h1 := fun q => RSt_fr (rs q) hX1.1 (by unfold Wjd Wmk; intro a k q; omega)
    have hg1 : hI h1 98 64 = nI g.toNat := by rw [Fr_I hX1.1 (by unfold Wjd Wmk; omega)]; exact hg
    simp only [genL, List.foldl_cons, List.foldl_nil, List.any_cons, List.any_nil, Bool.or_false]
    have hjl := sJdg_lt A S
    by_cases hst : sStd A S = true
    · have hz : (sJdg A S).1 = 0 := by simpa [sStd] using hst
      rw [hz] at e1
      simp only [hst, Bool.or_true]
      have hX2 : MW Wgt A h0 (hSetI h1 98 64 (nI 1)) := MW_step (V := fun a k => a = 98 ∧ k = 64) hX1' (Fr_set _ ⟨rfl, rfl⟩) (by
        intro a k hv
        unfold Wgt Wjd Wmk cM
        omega)
      have rs2 : RSb fb l (hSetI h1 98 64 (nI 1)) := fun q => RSt_fr (W := fun a k => a = 98 ∧ k = 64) (rs1 q) (Fr_set _ ⟨rfl, rfl⟩) (by intro a k q; omega)
      cases fb with
      | true =>
        refine ⟨hSetI h1 98 64 (nI 1), ?_, hX2, rs2, by rw [hI_setI, if_pos ⟨rfl, rfl⟩]; rfl⟩
        have hgf : g = false := by cases g with
          | true => exact absurd ⟨rfl, rfl⟩ hret
          | false => rfl
        subst hgf
        simp (disch := first | assumption | omega) [f_M_goThrough, body_M_goThrough, j_meth, j_out, j_rok, j_pad, lg_sl, s_seq_w, isN_inl, isN_inr, s_if, jb, x_c, x_iloc, x_aloc, x_lloc, x_bin, x_un, o_add, o_sub, o_mul, o_and, o_or, o_xor, o_shl, o_shr, o_ushr, o_max, o_min, o_i2b, o_i2c, o_i2l, o_l2i, x_fld, j_fget, x_idx, j_aget, x_len, j_alen, x_ofb, x_ite, xs_nil, xs_cons, x_callv, x_calls, s_callv, s_calls, j_recv, j_ret, j_retv, b_cmp, b_and, b_or, b_not, b_ofi, b_ite, b_true, s_skip, s_set, j_ty, j_lset, j_kill, s_inc, s_fput, j_fput, s_fop, s_aput, j_aput, j_nar, s_aop, s_ret, s_retv, s_go, s_pop, x_linc, x_finc, Value.category, if_icmp.holds, List.flatMap_cons, List.flatMap_nil, List.length_cons, List.length_append, List.length_nil, List.set_cons_succ, List.set_cons_zero, List.getElem?_cons_succ, List.getElem?_cons_zero, List.replicate, ite_and', ite_or', ite_int', nI_leI, nI_ltI, nI_eq, nI_add, nI_1, pk_mul, nI_clamp, n_in', nI_pos', nI_pos, n_m1e, n_01, n_10, sT_98, sT_99, sT_100, sT_101, sT_102, sT_103, sT_104, sT_105, sT_106, sT_107, sT_108, sT_109, sT_110, sT_111, sT_112, sT_113, sT_114, sT_115, sT_116, sT_117, sT_118, sT_119, sT_120, sT_121, sT_122, sT_123, sT_124, sT_125, sT_126, sT_127, sT_128, sT_129, sT_130, sT_131, sT_132, sT_133, sT_134, sT_135, sT_136, sT_137, sT_138, sT_139, sT_140, sR_98_1, sR_98_4, sR_98_5, sR_98_6, sR_98_7, sR_98_8, sR_98_9, sR_98_10, sR_98_12, sR_98_13, sR_98_14, sR_98_15, sR_98_16, sR_98_17, sR_98_18, sR_98_19, sR_98_20, sR_98_21, sR_98_22, sR_98_23, sR_98_24, sR_98_25, sR_98_26, sR_98_27, sR_98_28, sR_98_29, sR_98_31, sR_98_34, sR_98_35, sR_98_36, sR_98_42, sR_98_44, sR_98_45, sR_98_47, sR_98_49, sR_98_51, sR_98_56, sR_98_58, sR_98_62, sR_98_65, sR_98_66, sR_98_69, hg, n_10, nI_0, q0, e1, n_e1]
      | false =>
        have hl := hlen rfl
        simp only [genL, List.length_cons, List.length_nil] at hl
        have hX3 : MW Wgt A h0 (hSetI (hSetI h1 98 64 (nI 1)) 98 63 (nI (l.length + 1))) := MW_step (V := fun a k => a = 98 ∧ k = 63) hX2 (Fr_set _ ⟨rfl, rfl⟩) (by
          intro a k hv
          unfold Wgt Wjd Wmk cM
          omega)
        have hs3 := hX3.2.1.1
        have hc3 : ∀ j, j < l.length → hI (hSetI (hSetI h1 98 64 (nI 1)) 98 63 (nI (l.length + 1))) 137 j = nI (l.getD j 0) := fun j hj => by
          rw [hI_setI, if_neg (by omega)]; exact (rs2 rfl).2.1 j hj
        have g63 : hI h1 98 63 = nI l.length := (rs1 rfl).1
        have h364 : hI (hSetI (hSetI h1 98 64 (nI 1)) 98 63 (nI (l.length + 1))) 98 64 = nI 1 := by rw [hI_setI, if_neg (by omega), hI_setI, if_pos ⟨rfl, rfl⟩]
        have h363 : hI (hSetI (hSetI h1 98 64 (nI 1)) 98 63 (nI (l.length + 1))) 98 63 = nI (l.length + 1) := by rw [hI_setI, if_pos ⟨rfl, rfl⟩]
        obtain ⟨h4, e4, f4, c4, d4⟩ := e_gt_ins hs3 (f_M_goThrough m) (S := S) (l := l) (nI p) (nI (false : Bool).toNat) hS (by omega) (rs1 rfl).2.2 hc3
        have hs4 := Fr_shape hs3 f4
        have hpl := insP_le (fun i => decide (S < l.getD i 0)) l.length
        have hX4 : MW Wgt A h0 h4 := MW_step hX3 f4 (by
          intro a k hv
          unfold W137 at hv
          unfold Wgt Wjd Wmk cM
          omega)
        have hX5 : MW Wgt A h0 (hSetI h4 137 (insP (fun i => decide (S < l.getD i 0)) l.length) (nI S)) := MW_step (V := W137) hX4 (Fr_set _ rfl) (by
          intro a k hv
          unfold W137 at hv
          unfold Wgt Wjd Wmk cM
          omega)
        refine ⟨hSetI h4 137 (insP (fun i => decide (S < l.getD i 0)) l.length) (nI S), ?_, hX5, ?_, ?_⟩
        · have h63' : hI (hSetI h1 98 64 (nI 1)) 98 63 = nI l.length := (rs2 rfl).1
          have hs2 := hX2.2.1.1
          have ef : nI (false : Bool).toNat = 0 := rfl
          rw [ef] at e4
          generalize hh3 : hSetI (hSetI h1 98 64 (nI 1)) 98 63 (nI (l.length + 1)) = h3 at *
          generalize hh2 : hSetI h1 98 64 (nI 1) = h2 at *
          generalize insP (fun i => decide (S < l.getD i 0)) l.length = pos at *
          simp (disch := first | assumption | omega) [f_M_goThrough, body_M_goThrough, j_meth, j_out, j_rok, j_pad, lg_sl, s_seq_w, isN_inl, isN_inr, s_if, jb, x_c, x_iloc, x_aloc, x_lloc, x_bin, x_un, o_add, o_sub, o_mul, o_and, o_or, o_xor, o_shl, o_shr, o_ushr, o_max, o_min, o_i2b, o_i2c, o_i2l, o_l2i, x_fld, j_fget, x_idx, j_aget, x_len, j_alen, x_ofb, x_ite, xs_nil, xs_cons, x_callv, x_calls, s_callv, s_calls, j_recv, j_ret, j_retv, b_cmp, b_and, b_or, b_not, b_ofi, b_ite, b_true, s_skip, s_set, j_ty, j_lset, j_kill, s_inc, s_fput, j_fput, s_fop, s_aput, j_aput, j_nar, s_aop, s_ret, s_retv, s_go, s_pop, x_linc, x_finc, Value.category, if_icmp.holds, List.flatMap_cons, List.flatMap_nil, List.length_cons, List.length_append, List.length_nil, List.set_cons_succ, List.set_cons_zero, List.getElem?_cons_succ, List.getElem?_cons_zero, List.replicate, ite_and', ite_or', ite_int', nI_leI, nI_ltI, nI_eq, nI_add, nI_1, pk_mul, nI_clamp, n_in', nI_pos', nI_pos, n_m1e, n_01, n_10, sT_98, sT_99, sT_100, sT_101, sT_102, sT_103, sT_104, sT_105, sT_106, sT_107, sT_108, sT_109, sT_110, sT_111, sT_112, sT_113, sT_114, sT_115, sT_116, sT_117, sT_118, sT_119, sT_120, sT_121, sT_122, sT_123, sT_124, sT_125, sT_126, sT_127, sT_128, sT_129, sT_130, sT_131, sT_132, sT_133, sT_134, sT_135, sT_136, sT_137, sT_138, sT_139, sT_140, sR_98_1, sR_98_4, sR_98_5, sR_98_6, sR_98_7, sR_98_8, sR_98_9, sR_98_10, sR_98_12, sR_98_13, sR_98_14, sR_98_15, sR_98_16, sR_98_17, sR_98_18, sR_98_19, sR_98_20, sR_98_21, sR_98_22, sR_98_23, sR_98_24, sR_98_25, sR_98_26, sR_98_27, sR_98_28, sR_98_29, sR_98_31, sR_98_34, sR_98_35, sR_98_36, sR_98_42, sR_98_44, sR_98_45, sR_98_47, sR_98_49, sR_98_51, sR_98_56, sR_98_58, sR_98_62, sR_98_65, sR_98_66, sR_98_69, nI_0, q0, e1, n_e1, hh2, h63', hh3, e4]
        · intro _
          rw [if_neg (by decide)]
          unfold gtF
          rw [if_pos hst]
          refine RSt_ins (h := h4) (by omega) hS (rs1 rfl).2.2 ?_ c4 d4 ?_
          · rw [hI_setI, if_neg (by omega), Fr_I f4 (by simp [W137])]; exact h363
          · intro j
            rw [hI_setI]
            by_cases e : j = insP (fun i => decide (S < l.getD i 0)) l.length
            · rw [if_pos ⟨rfl, e⟩, if_pos e]
            · rw [if_neg (by omega), if_neg e]
        · rw [hI_setI, if_neg (by omega), Fr_I f4 (by simp [W137])]; exact h364
    · have hst' : sStd A S = false := by simpa using hst
      have hz : ¬ (sJdg A S).1 = 0 := by simpa [sStd] using hst
      have hz' : ¬ nI (sJdg A S).1 = 0 := fun q => hz ((n_eq0 (by omega)).mp q)
      simp only [gtF, hst', Bool.or_false]
      refine ⟨h1, ?_, hX1', by cases fb <;> exact rs1, hg1⟩
      cases fb with
      | true =>
        have hgf : g = false := by cases g with
          | true => exact absurd ⟨rfl, rfl⟩ hret
          | false => rfl
        subst hgf
        simp (disch := first | assumption | omega) [f_M_goThrough, body_M_goThrough, j_meth, j_out, j_rok, j_pad, lg_sl, s_seq_w, isN_inl, isN_inr, s_if, jb, x_c, x_iloc, x_aloc, x_lloc, x_bin, x_un, o_add, o_sub, o_mul, o_and, o_or, o_xor, o_shl, o_shr, o_ushr, o_max, o_min, o_i2b, o_i2c, o_i2l, o_l2i, x_fld, j_fget, x_idx, j_aget, x_len, j_alen, x_ofb, x_ite, xs_nil, xs_cons, x_callv, x_calls, s_callv, s_calls, j_recv, j_ret, j_retv, b_cmp, b_and, b_or, b_not, b_ofi, b_ite, b_true, s_skip, s_set, j_ty, j_lset, j_kill, s_inc, s_fput, j_fput, s_fop, s_aput, j_aput, j_nar, s_aop, s_ret, s_retv, s_go, s_pop, x_linc, x_finc, Value.category, if_icmp.holds, List.flatMap_cons, List.flatMap_nil, List.length_cons, List.length_append, List.length_nil, List.set_cons_succ, List.set_cons_zero, List.getElem?_cons_succ, List.getElem?_cons_zero, List.replicate, ite_and', ite_or', ite_int', nI_leI, nI_ltI, nI_eq, nI_add, nI_1, pk_mul, nI_clamp, n_in', nI_pos', nI_pos, n_m1e, n_01, n_10, sT_98, sT_99, sT_100, sT_101, sT_102, sT_103, sT_104, sT_105, sT_106, sT_107, sT_108, sT_109, sT_110, sT_111, sT_112, sT_113, sT_114, sT_115, sT_116, sT_117, sT_118, sT_119, sT_120, sT_121, sT_122, sT_123, sT_124, sT_125, sT_126, sT_127, sT_128, sT_129, sT_130, sT_131, sT_132, sT_133, sT_134, sT_135, sT_136, sT_137, sT_138, sT_139, sT_140, sR_98_1, sR_98_4, sR_98_5, sR_98_6, sR_98_7, sR_98_8, sR_98_9, sR_98_10, sR_98_12, sR_98_13, sR_98_14, sR_98_15, sR_98_16, sR_98_17, sR_98_18, sR_98_19, sR_98_20, sR_98_21, sR_98_22, sR_98_23, sR_98_24, sR_98_25, sR_98_26, sR_98_27, sR_98_28, sR_98_29, sR_98_31, sR_98_34, sR_98_35, sR_98_36, sR_98_42, sR_98_44, sR_98_45, sR_98_47, sR_98_49, sR_98_51, sR_98_56, sR_98_58, sR_98_62, sR_98_65, sR_98_66, sR_98_69, hg, n_10, nI_0, q0, e1, hz']
      | false => simp (disch := first | assumption | omega) [f_M_goThrough, body_M_goThrough, j_meth, j_out, j_rok, j_pad, lg_sl, s_seq_w, isN_inl, isN_inr, s_if, jb, x_c, x_iloc, x_aloc, x_lloc, x_bin, x_un, o_add, o_sub, o_mul, o_and, o_or, o_xor, o_shl, o_shr, o_ushr, o_max, o_min, o_i2b, o_i2c, o_i2l, o_l2i, x_fld, j_fget, x_idx, j_aget, x_len, j_alen, x_ofb, x_ite, xs_nil, xs_cons, x_callv, x_calls, s_callv, s_calls, j_recv, j_ret, j_retv, b_cmp, b_and, b_or, b_not, b_ofi, b_ite, b_true, s_skip, s_set, j_ty, j_lset, j_kill, s_inc, s_fput, j_fput, s_fop, s_aput, j_aput, j_nar, s_aop, s_ret, s_retv, s_go, s_pop, x_linc, x_finc, Value.category, if_icmp.holds, List.flatMap_cons, List.flatMap_nil, List.length_cons, List.length_append, List.length_nil, List.set_cons_succ, List.set_cons_zero, List.getElem?_cons_succ, List.getElem?_cons_zero, List.replicate, ite_and', ite_or', ite_int', nI_leI, nI_ltI, nI_eq, nI_add, nI_1, pk_mul, nI_clamp, n_in', nI_pos', nI_pos, n_m1e, n_01, n_10, sT_98, sT_99, sT_100, sT_101, sT_102, sT_103, sT_104, sT_105, sT_106, sT_107, sT_108, sT_109, sT_110, sT_111, sT_112, sT_113, sT_114, sT_115, sT_116, sT_117, sT_118, sT_119, sT_120, sT_121, sT_122, sT_123, sT_124, sT_125, sT_126, sT_127, sT_128, sT_129, sT_130, sT_131, sT_132, sT_133, sT_134, sT_135, sT_136, sT_137, sT_138, sT_139, sT_140, sR_98_1, sR_98_4, sR_98_5, sR_98_6, sR_98_7, sR_98_8, sR_98_9, sR_98_10, sR_98_12, sR_98_13, sR_98_14, sR_98_15, sR_98_16, sR_98_17, sR_98_18, sR_98_19, sR_98_20, sR_98_21, sR_98_22, sR_98_23, sR_98_24, sR_98_25, sR_98_26, sR_98_27, sR_98_28, sR_98_29, sR_98_31, sR_98_34, sR_98_35, sR_98_36, sR_98_42, sR_98_44, sR_98_45, sR_98_47, sR_98_49, sR_98_51, sR_98_56, sR_98_58, sR_98_62, sR_98_65, sR_98_66, sR_98_69, hg, n_10, nI_0, q0, e1, hz']
  | succ n ih =>
    intro m hm p S h l g hp hS hX rs hg hlen
    cases m with
    | zero => omega
    | succ m =>
    have k := hX.2.1
    have hs := k.1
    have w := k.2.1
    have hn := w.1.1
    have h20 := w.2.2.1.1
    have q0 := k.2.2.1.1
    have hpn : ¬ p = aNp A := by omega
    by_cases hret : fb = true ∧ g = true
    · obtain ⟨rfl, rfl⟩ := hret
      refine ⟨h, ?_, hX, rs, by simpa using hg⟩
      simp (disch := first | assumption | omega) [f_M_goThrough, body_M_goThrough, j_meth, j_out, j_rok, j_pad, lg_sl, s_seq_w, isN_inl, isN_inr, s_if, jb, x_c, x_iloc, x_aloc, x_lloc, x_bin, x_un, o_add, o_sub, o_mul, o_and, o_or, o_xor, o_shl, o_shr, o_ushr, o_max, o_min, o_i2b, o_i2c, o_i2l, o_l2i, x_fld, j_fget, x_idx, j_aget, x_len, j_alen, x_ofb, x_ite, xs_nil, xs_cons, x_callv, x_calls, s_callv, s_calls, j_recv, j_ret, j_retv, b_cmp, b_and, b_or, b_not, b_ofi, b_ite, b_true, s_skip, s_set, j_ty, j_lset, j_kill, s_inc, s_fput, j_fput, s_fop, s_aput, j_aput, j_nar, s_aop, s_ret, s_retv, s_go, s_pop, x_linc, x_finc, Value.category, if_icmp.holds, List.flatMap_cons, List.flatMap_nil, List.length_cons, List.length_append, List.length_nil, List.set_cons_succ, List.set_cons_zero, List.getElem?_cons_succ, List.getElem?_cons_zero, List.replicate, ite_and', ite_or', ite_int', nI_leI, nI_ltI, nI_eq, nI_add, nI_1, pk_mul, nI_clamp, n_in', nI_pos', nI_pos, n_m1e, n_01, n_10, sT_98, sT_99, sT_100, sT_101, sT_102, sT_103, sT_104, sT_105, sT_106, sT_107, sT_108, sT_109, sT_110, sT_111, sT_112, sT_113, sT_114, sT_115, sT_116, sT_117, sT_118, sT_119, sT_120, sT_121, sT_122, sT_123, sT_124, sT_125, sT_126, sT_127, sT_128, sT_129, sT_130, sT_131, sT_132, sT_133, sT_134, sT_135, sT_136, sT_137, sT_138, sT_139, sT_140, sR_98_1, sR_98_4, sR_98_5, sR_98_6, sR_98_7, sR_98_8, sR_98_9, sR_98_10, sR_98_12, sR_98_13, sR_98_14, sR_98_15, sR_98_16, sR_98_17, sR_98_18, sR_98_19, sR_98_20, sR_98_21, sR_98_22, sR_98_23, sR_98_24, sR_98_25, sR_98_26, sR_98_27, sR_98_28, sR_98_29, sR_98_31, sR_98_34, sR_98_35, sR_98_36, sR_98_42, sR_98_44, sR_98_45, sR_98_47, sR_98_49, sR_98_51, sR_98_56, sR_98_58, sR_98_62, sR_98_65, sR_98_66, sR_98_69, hg, n_10]
    have hgen : genL A (n + 1) p S = genB A n p S (aNb A) := rfl
    have hgen0 : genB A n p S 0 = genL A n (p + 1) S := rfl
    have hmono := fun i (hi : i ≤ aNb A) => genB_mono A n p S hi
    rw [hgen] at hlen ⊢
    obtain ⟨h1, e1, hX1, rs1, hg1⟩ := ih m (by omega) (p + 1) S h l g (by omega) hS hX rs hg (fun hf => by have := hlen hf; have := hmono 0 (by omega); rw [hgen0] at this; omega)
    have hL := loop_wp (lb := 3) (lc := 4) (c := lc_M_goThrough_2 (f_M_goThrough m)) (b := lb_M_goThrough_2 (f_M_goThrough m)) (u := lu_M_goThrough_2 (f_M_goThrough m)) (aNb A)
      (fun i st => ∃ h', st = ([.ref 98, .int (nI p), .int (nI S), .int (nI fb.toNat), .int (nI i)], h') ∧ MW Wgt A h0 h' ∧ RSb fb (if fb then l else (genB A n p S i).foldl (gtF A) l) h' ∧ hI h' 98 64 = nI (g || (genB A n p S i).any (sStd A)).toNat)
      (fun r => ∃ h', r = (.inl 0, ([.ref 98, .int (nI p), .int (nI S), .int (nI fb.toNat), .int (nI (aNb A))], h')) ∧ MW Wgt A h0 h' ∧ RSb fb (if fb then l else (genB A n p S (aNb A)).foldl (gtF A) l) h' ∧ hI h' 98 64 = nI (g || (genB A n p S (aNb A)).any (sStd A)).toNat)
      ?_ ?_ ([.ref 98, .int (nI p), .int (nI S), .int (nI fb.toNat), .int (nI 0)], h1) ⟨h1, rfl, hX1, rs1, hg1⟩
    · obtain ⟨r, hl, h2, rfl, g1, g2, g3⟩ := hL
      refine ⟨h2, ?_, g1, g2, g3⟩
      simp only [nI_0] at hl
      cases fb with
      | true =>
        have hgf : g = false := by cases g with
          | true => exact absurd ⟨rfl, rfl⟩ hret
          | false => rfl
        subst hgf
        simp only [Bool.toNat_true, Bool.toNat_false, nI_0] at hl e1 hg
        simp (disch := first | assumption | omega) [f_M_goThrough, body_M_goThrough, j_meth, j_out, j_rok, j_pad, lg_sl, s_seq_w, isN_inl, isN_inr, s_if, jb, x_c, x_iloc, x_aloc, x_lloc, x_bin, x_un, o_add, o_sub, o_mul, o_and, o_or, o_xor, o_shl, o_shr, o_ushr, o_max, o_min, o_i2b, o_i2c, o_i2l, o_l2i, x_fld, j_fget, x_idx, j_aget, x_len, j_alen, x_ofb, x_ite, xs_nil, xs_cons, x_callv, x_calls, s_callv, s_calls, j_recv, j_ret, j_retv, b_cmp, b_and, b_or, b_not, b_ofi, b_ite, b_true, s_skip, s_set, j_ty, j_lset, j_kill, s_inc, s_fput, j_fput, s_fop, s_aput, j_aput, j_nar, s_aop, s_ret, s_retv, s_go, s_pop, x_linc, x_finc, Value.category, if_icmp.holds, List.flatMap_cons, List.flatMap_nil, List.length_cons, List.length_append, List.length_nil, List.set_cons_succ, List.set_cons_zero, List.getElem?_cons_succ, List.getElem?_cons_zero, List.replicate, ite_and', ite_or', ite_int', nI_leI, nI_ltI, nI_eq, nI_add, nI_1, pk_mul, nI_clamp, n_in', nI_pos', nI_pos, n_m1e, n_01, n_10, sT_98, sT_99, sT_100, sT_101, sT_102, sT_103, sT_104, sT_105, sT_106, sT_107, sT_108, sT_109, sT_110, sT_111, sT_112, sT_113, sT_114, sT_115, sT_116, sT_117, sT_118, sT_119, sT_120, sT_121, sT_122, sT_123, sT_124, sT_125, sT_126, sT_127, sT_128, sT_129, sT_130, sT_131, sT_132, sT_133, sT_134, sT_135, sT_136, sT_137, sT_138, sT_139, sT_140, sR_98_1, sR_98_4, sR_98_5, sR_98_6, sR_98_7, sR_98_8, sR_98_9, sR_98_10, sR_98_12, sR_98_13, sR_98_14, sR_98_15, sR_98_16, sR_98_17, sR_98_18, sR_98_19, sR_98_20, sR_98_21, sR_98_22, sR_98_23, sR_98_24, sR_98_25, sR_98_26, sR_98_27, sR_98_28, sR_98_29, sR_98_31, sR_98_34, sR_98_35, sR_98_36, sR_98_42, sR_98_44, sR_98_45, sR_98_47, sR_98_49, sR_98_51, sR_98_56, sR_98_58, sR_98_62, sR_98_65, sR_98_66, sR_98_69, hg, n_10, nI_0, q0, hpn, e1, hl]
      | false =>
        simp only [Bool.toNat_true, Bool.toNat_false, nI_0] at hl e1
        simp (disch := first | assumption | omega) [f_M_goThrough, body_M_goThrough, j_meth, j_out, j_rok, j_pad, lg_sl, s_seq_w, isN_inl, isN_inr, s_if, jb, x_c, x_iloc, x_aloc, x_lloc, x_bin, x_un, o_add, o_sub, o_mul, o_and, o_or, o_xor, o_shl, o_shr, o_ushr, o_max, o_min, o_i2b, o_i2c, o_i2l, o_l2i, x_fld, j_fget, x_idx, j_aget, x_len, j_alen, x_ofb, x_ite, xs_nil, xs_cons, x_callv, x_calls, s_callv, s_calls, j_recv, j_ret, j_retv, b_cmp, b_and, b_or, b_not, b_ofi, b_ite, b_true, s_skip, s_set, j_ty, j_lset, j_kill, s_inc, s_fput, j_fput, s_fop, s_aput, j_aput, j_nar, s_aop, s_ret, s_retv, s_go, s_pop, x_linc, x_finc, Value.category, if_icmp.holds, List.flatMap_cons, List.flatMap_nil, List.length_cons, List.length_append, List.length_nil, List.set_cons_succ, List.set_cons_zero, List.getElem?_cons_succ, List.getElem?_cons_zero, List.replicate, ite_and', ite_or', ite_int', nI_leI, nI_ltI, nI_eq, nI_add, nI_1, pk_mul, nI_clamp, n_in', nI_pos', nI_pos, n_m1e, n_01, n_10, sT_98, sT_99, sT_100, sT_101, sT_102, sT_103, sT_104, sT_105, sT_106, sT_107, sT_108, sT_109, sT_110, sT_111, sT_112, sT_113, sT_114, sT_115, sT_116, sT_117, sT_118, sT_119, sT_120, sT_121, sT_122, sT_123, sT_124, sT_125, sT_126, sT_127, sT_128, sT_129, sT_130, sT_131, sT_132, sT_133, sT_134, sT_135, sT_136, sT_137, sT_138, sT_139, sT_140, sR_98_1, sR_98_4, sR_98_5, sR_98_6, sR_98_7, sR_98_8, sR_98_9, sR_98_10, sR_98_12, sR_98_13, sR_98_14, sR_98_15, sR_98_16, sR_98_17, sR_98_18, sR_98_19, sR_98_20, sR_98_21, sR_98_22, sR_98_23, sR_98_24, sR_98_25, sR_98_26, sR_98_27, sR_98_28, sR_98_29, sR_98_31, sR_98_34, sR_98_35, sR_98_36, sR_98_42, sR_98_44, sR_98_45, sR_98_47, sR_98_49, sR_98_51, sR_98_56, sR_98_58, sR_98_62, sR_98_65, sR_98_66, sR_98_69, n_10, nI_0, q0, hpn, e1, hl]
    · rintro i st hi ⟨h2, rfl, hX2, rs2, hg2⟩
      left
      have k2 := hX2.2.1
      have hs2 := k2.1
      have q1 := k2.2.2.2.1.2.1
      obtain ⟨ee, -⟩ := k2.2.2.2.1.2.2 i hi
      have l1 := (w.2.2.1.2.1 i hi).1
      have c2 := e_M_placeOf hs2 w k2.2.2.2.1 k2.2.2.2.2.1 hi
      have c3 := e_M_coupleOf k2 (p := p) (by omega)
      have r2 : (oI (sPlc A i) = -1) = (sPlc A i = none) := propext (oI_m1 fun n hn => by have := sPlc_lt w hn; omega)
      have r3 : (oI (sCpl A p) = -1) = (sCpl A p = none) := propext (oI_m1 (sCpl_31 w))
      rw [genB_s]
      by_cases hel : sElg A p i = true
      · rw [if_pos hel]
        have hS2 : S ||| 2 ^ i < 2 ^ 20 := Nat.or_lt_two_pow hS (Nat.pow_lt_pow_right (by decide) (by omega))
        obtain ⟨h3, e3, hX3, rs3, hg3⟩ := ih m (by omega) (p + 1) (S ||| 2 ^ i) h2 (if fb then l else (genB A n p S i).foldl (gtF A) l) (g || (genB A n p S i).any (sStd A)) (by omega) hS2 hX2 rs2 hg2 (fun hf => by
          have h1 := hlen hf
          have h2 := hmono (i + 1) (by omega)
          rw [genB_s, if_pos hel, List.length_append] at h2
          subst hf
          have h3 := gtF_fold_len A (genB A n p S i) l
          simp only [Bool.false_eq_true, if_false]
          omega)
        refine ⟨([.ref 98, .int (nI p), .int (nI S), .int (nI fb.toNat), .int (nI (i + 1))], h3), ?_, h3, rfl, hX3, ?_, ?_⟩
        · unfold sElg at hel
          simp only [Bool.and_eq_true, beq_iff_eq, Bool.or_eq_true] at hel
          obtain ⟨hel1, hel2⟩ := hel
          by_cases hpl : sPlc A i = none
          · have hcp : ¬ sCpl A p = none := by
              intro q
              rw [hpl, q] at hel2
              simp at hel2
            simp (disch := first | assumption | omega) [lstp, lc_M_goThrough_2, lb_M_goThrough_2, lu_M_goThrough_2, j_meth, j_out, j_rok, j_pad, lg_sl, s_seq_w, isN_inl, isN_inr, s_if, jb, x_c, x_iloc, x_aloc, x_lloc, x_bin, x_un, o_add, o_sub, o_mul, o_and, o_or, o_xor, o_shl, o_shr, o_ushr, o_max, o_min, o_i2b, o_i2c, o_i2l, o_l2i, x_fld, j_fget, x_idx, j_aget, x_len, j_alen, x_ofb, x_ite, xs_nil, xs_cons, x_callv, x_calls, s_callv, s_calls, j_recv, j_ret, j_retv, b_cmp, b_and, b_or, b_not, b_ofi, b_ite, b_true, s_skip, s_set, j_ty, j_lset, j_kill, s_inc, s_fput, j_fput, s_fop, s_aput, j_aput, j_nar, s_aop, s_ret, s_retv, s_go, s_pop, x_linc, x_finc, Value.category, if_icmp.holds, List.flatMap_cons, List.flatMap_nil, List.length_cons, List.length_append, List.length_nil, List.set_cons_succ, List.set_cons_zero, List.getElem?_cons_succ, List.getElem?_cons_zero, List.replicate, ite_and', ite_or', ite_int', nI_leI, nI_ltI, nI_eq, nI_add, nI_1, pk_mul, nI_clamp, n_in', nI_pos', nI_pos, n_m1e, n_01, n_10, sT_98, sT_99, sT_100, sT_101, sT_102, sT_103, sT_104, sT_105, sT_106, sT_107, sT_108, sT_109, sT_110, sT_111, sT_112, sT_113, sT_114, sT_115, sT_116, sT_117, sT_118, sT_119, sT_120, sT_121, sT_122, sT_123, sT_124, sT_125, sT_126, sT_127, sT_128, sT_129, sT_130, sT_131, sT_132, sT_133, sT_134, sT_135, sT_136, sT_137, sT_138, sT_139, sT_140, sR_98_1, sR_98_4, sR_98_5, sR_98_6, sR_98_7, sR_98_8, sR_98_9, sR_98_10, sR_98_12, sR_98_13, sR_98_14, sR_98_15, sR_98_16, sR_98_17, sR_98_18, sR_98_19, sR_98_20, sR_98_21, sR_98_22, sR_98_23, sR_98_24, sR_98_25, sR_98_26, sR_98_27, sR_98_28, sR_98_29, sR_98_31, sR_98_34, sR_98_35, sR_98_36, sR_98_42, sR_98_44, sR_98_45, sR_98_47, sR_98_49, sR_98_51, sR_98_56, sR_98_58, sR_98_62, sR_98_65, sR_98_66, sR_98_69, q1, hi, ee, hel1, c2, r2, c3, r3, hpl, hcp, n_bk, n_or, e3, oI_n]
          · simp (disch := first | assumption | omega) [lstp, lc_M_goThrough_2, lb_M_goThrough_2, lu_M_goThrough_2, j_meth, j_out, j_rok, j_pad, lg_sl, s_seq_w, isN_inl, isN_inr, s_if, jb, x_c, x_iloc, x_aloc, x_lloc, x_bin, x_un, o_add, o_sub, o_mul, o_and, o_or, o_xor, o_shl, o_shr, o_ushr, o_max, o_min, o_i2b, o_i2c, o_i2l, o_l2i, x_fld, j_fget, x_idx, j_aget, x_len, j_alen, x_ofb, x_ite, xs_nil, xs_cons, x_callv, x_calls, s_callv, s_calls, j_recv, j_ret, j_retv, b_cmp, b_and, b_or, b_not, b_ofi, b_ite, b_true, s_skip, s_set, j_ty, j_lset, j_kill, s_inc, s_fput, j_fput, s_fop, s_aput, j_aput, j_nar, s_aop, s_ret, s_retv, s_go, s_pop, x_linc, x_finc, Value.category, if_icmp.holds, List.flatMap_cons, List.flatMap_nil, List.length_cons, List.length_append, List.length_nil, List.set_cons_succ, List.set_cons_zero, List.getElem?_cons_succ, List.getElem?_cons_zero, List.replicate, ite_and', ite_or', ite_int', nI_leI, nI_ltI, nI_eq, nI_add, nI_1, pk_mul, nI_clamp, n_in', nI_pos', nI_pos, n_m1e, n_01, n_10, sT_98, sT_99, sT_100, sT_101, sT_102, sT_103, sT_104, sT_105, sT_106, sT_107, sT_108, sT_109, sT_110, sT_111, sT_112, sT_113, sT_114, sT_115, sT_116, sT_117, sT_118, sT_119, sT_120, sT_121, sT_122, sT_123, sT_124, sT_125, sT_126, sT_127, sT_128, sT_129, sT_130, sT_131, sT_132, sT_133, sT_134, sT_135, sT_136, sT_137, sT_138, sT_139, sT_140, sR_98_1, sR_98_4, sR_98_5, sR_98_6, sR_98_7, sR_98_8, sR_98_9, sR_98_10, sR_98_12, sR_98_13, sR_98_14, sR_98_15, sR_98_16, sR_98_17, sR_98_18, sR_98_19, sR_98_20, sR_98_21, sR_98_22, sR_98_23, sR_98_24, sR_98_25, sR_98_26, sR_98_27, sR_98_28, sR_98_29, sR_98_31, sR_98_34, sR_98_35, sR_98_36, sR_98_42, sR_98_44, sR_98_45, sR_98_47, sR_98_49, sR_98_51, sR_98_56, sR_98_58, sR_98_62, sR_98_65, sR_98_66, sR_98_69, q1, hi, ee, hel1, c2, r2, c3, r3, hpl, n_bk, n_or, e3]
        · cases fb with
          | true => exact fun q => by cases q
          | false => simp only [Bool.false_eq_true, if_false, List.foldl_append] at rs3 ⊢; exact rs3
        · rw [List.any_append, ← Bool.or_assoc]; exact hg3
      · have hel' : sElg A p i = false := by simpa using hel
        rw [if_neg hel, List.append_nil]
        refine ⟨([.ref 98, .int (nI p), .int (nI S), .int (nI fb.toNat), .int (nI (i + 1))], h2), ?_, h2, rfl, hX2, rs2, hg2⟩
        unfold sElg at hel'
        by_cases h1p : aPe A i = p
        · have h2' : sPlc A i = none ∧ sCpl A p = none := by simpa [h1p] using hel'
          simp (disch := first | assumption | omega) [lstp, lc_M_goThrough_2, lb_M_goThrough_2, lu_M_goThrough_2, j_meth, j_out, j_rok, j_pad, lg_sl, s_seq_w, isN_inl, isN_inr, s_if, jb, x_c, x_iloc, x_aloc, x_lloc, x_bin, x_un, o_add, o_sub, o_mul, o_and, o_or, o_xor, o_shl, o_shr, o_ushr, o_max, o_min, o_i2b, o_i2c, o_i2l, o_l2i, x_fld, j_fget, x_idx, j_aget, x_len, j_alen, x_ofb, x_ite, xs_nil, xs_cons, x_callv, x_calls, s_callv, s_calls, j_recv, j_ret, j_retv, b_cmp, b_and, b_or, b_not, b_ofi, b_ite, b_true, s_skip, s_set, j_ty, j_lset, j_kill, s_inc, s_fput, j_fput, s_fop, s_aput, j_aput, j_nar, s_aop, s_ret, s_retv, s_go, s_pop, x_linc, x_finc, Value.category, if_icmp.holds, List.flatMap_cons, List.flatMap_nil, List.length_cons, List.length_append, List.length_nil, List.set_cons_succ, List.set_cons_zero, List.getElem?_cons_succ, List.getElem?_cons_zero, List.replicate, ite_and', ite_or', ite_int', nI_leI, nI_ltI, nI_eq, nI_add, nI_1, pk_mul, nI_clamp, n_in', nI_pos', nI_pos, n_m1e, n_01, n_10, sT_98, sT_99, sT_100, sT_101, sT_102, sT_103, sT_104, sT_105, sT_106, sT_107, sT_108, sT_109, sT_110, sT_111, sT_112, sT_113, sT_114, sT_115, sT_116, sT_117, sT_118, sT_119, sT_120, sT_121, sT_122, sT_123, sT_124, sT_125, sT_126, sT_127, sT_128, sT_129, sT_130, sT_131, sT_132, sT_133, sT_134, sT_135, sT_136, sT_137, sT_138, sT_139, sT_140, sR_98_1, sR_98_4, sR_98_5, sR_98_6, sR_98_7, sR_98_8, sR_98_9, sR_98_10, sR_98_12, sR_98_13, sR_98_14, sR_98_15, sR_98_16, sR_98_17, sR_98_18, sR_98_19, sR_98_20, sR_98_21, sR_98_22, sR_98_23, sR_98_24, sR_98_25, sR_98_26, sR_98_27, sR_98_28, sR_98_29, sR_98_31, sR_98_34, sR_98_35, sR_98_36, sR_98_42, sR_98_44, sR_98_45, sR_98_47, sR_98_49, sR_98_51, sR_98_56, sR_98_58, sR_98_62, sR_98_65, sR_98_66, sR_98_69, q1, hi, ee, h1p, c2, r2, c3, r3, h2'.1, h2'.2, oI_n]
        · simp (disch := first | assumption | omega) [lstp, lc_M_goThrough_2, lb_M_goThrough_2, lu_M_goThrough_2, j_meth, j_out, j_rok, j_pad, lg_sl, s_seq_w, isN_inl, isN_inr, s_if, jb, x_c, x_iloc, x_aloc, x_lloc, x_bin, x_un, o_add, o_sub, o_mul, o_and, o_or, o_xor, o_shl, o_shr, o_ushr, o_max, o_min, o_i2b, o_i2c, o_i2l, o_l2i, x_fld, j_fget, x_idx, j_aget, x_len, j_alen, x_ofb, x_ite, xs_nil, xs_cons, x_callv, x_calls, s_callv, s_calls, j_recv, j_ret, j_retv, b_cmp, b_and, b_or, b_not, b_ofi, b_ite, b_true, s_skip, s_set, j_ty, j_lset, j_kill, s_inc, s_fput, j_fput, s_fop, s_aput, j_aput, j_nar, s_aop, s_ret, s_retv, s_go, s_pop, x_linc, x_finc, Value.category, if_icmp.holds, List.flatMap_cons, List.flatMap_nil, List.length_cons, List.length_append, List.length_nil, List.set_cons_succ, List.set_cons_zero, List.getElem?_cons_succ, List.getElem?_cons_zero, List.replicate, ite_and', ite_or', ite_int', nI_leI, nI_ltI, nI_eq, nI_add, nI_1, pk_mul, nI_clamp, n_in', nI_pos', nI_pos, n_m1e, n_01, n_10, sT_98, sT_99, sT_100, sT_101, sT_102, sT_103, sT_104, sT_105, sT_106, sT_107, sT_108, sT_109, sT_110, sT_111, sT_112, sT_113, sT_114, sT_115, sT_116, sT_117, sT_118, sT_119, sT_120, sT_121, sT_122, sT_123, sT_124, sT_125, sT_126, sT_127, sT_128, sT_129, sT_130, sT_131, sT_132, sT_133, sT_134, sT_135, sT_136, sT_137, sT_138, sT_139, sT_140, sR_98_1, sR_98_4, sR_98_5, sR_98_6, sR_98_7, sR_98_8, sR_98_9, sR_98_10, sR_98_12, sR_98_13, sR_98_14, sR_98_15, sR_98_16, sR_98_17, sR_98_18, sR_98_19, sR_98_20, sR_98_21, sR_98_22, sR_98_23, sR_98_24, sR_98_25, sR_98_26, sR_98_27, sR_98_28, sR_98_29, sR_98_31, sR_98_34, sR_98_35, sR_98_36, sR_98_42, sR_98_44, sR_98_45, sR_98_47, sR_98_49, sR_98_51, sR_98_56, sR_98_58, sR_98_62, sR_98_65, sR_98_66, sR_98_69, q1, hi, ee, h1p]
    · rintro st ⟨h2, rfl, hX2, rs2, hg2⟩
      have k2 := hX2.2.1
      have hs2 := k2.1
      have q1 := k2.2.2.2.1.2.1
      refine ⟨_, ?_, h2, rfl, hX2, rs2, hg2⟩
      simp (disch := first | assumption | omega) [lstp, lc_M_goThrough_2, j_meth, j_out, j_rok, j_pad, lg_sl, s_seq_w, isN_inl, isN_inr, s_if, jb, x_c, x_iloc, x_aloc, x_lloc, x_bin, x_un, o_add, o_sub, o_mul, o_and, o_or, o_xor, o_shl, o_shr, o_ushr, o_max, o_min, o_i2b, o_i2c, o_i2l, o_l2i, x_fld, j_fget, x_idx, j_aget, x_len, j_alen, x_ofb, x_ite, xs_nil, xs_cons, x_callv, x_calls, s_callv, s_calls, j_recv, j_ret, j_retv, b_cmp, b_and, b_or, b_not, b_ofi, b_ite, b_true, s_skip, s_set, j_ty, j_lset, j_kill, s_inc, s_fput, j_fput, s_fop, s_aput, j_aput, j_nar, s_aop, s_ret, s_retv, s_go, s_pop, x_linc, x_finc, Value.category, if_icmp.holds, List.flatMap_cons, List.flatMap_nil, List.length_cons, List.length_append, List.length_nil, List.set_cons_succ, List.set_cons_zero, List.getElem?_cons_succ, List.getElem?_cons_zero, List.replicate, ite_and', ite_or', ite_int', nI_leI, nI_ltI, nI_eq, nI_add, nI_1, pk_mul, nI_clamp, n_in', nI_pos', nI_pos, n_m1e, n_01, n_10, sT_98, sT_99, sT_100, sT_101, sT_102, sT_103, sT_104, sT_105, sT_106, sT_107, sT_108, sT_109, sT_110, sT_111, sT_112, sT_113, sT_114, sT_115, sT_116, sT_117, sT_118, sT_119, sT_120, sT_121, sT_122, sT_123, sT_124, sT_125, sT_126, sT_127, sT_128, sT_129, sT_130, sT_131, sT_132, sT_133, sT_134, sT_135, sT_136, sT_137, sT_138, sT_139, sT_140, sR_98_1, sR_98_4, sR_98_5, sR_98_6, sR_98_7, sR_98_8, sR_98_9, sR_98_10, sR_98_12, sR_98_13, sR_98_14, sR_98_15, sR_98_16, sR_98_17, sR_98_18, sR_98_19, sR_98_20, sR_98_21, sR_98_22, sR_98_23, sR_98_24, sR_98_25, sR_98_26, sR_98_27, sR_98_28, sR_98_29, sR_98_31, sR_98_34, sR_98_35, sR_98_36, sR_98_42, sR_98_44, sR_98_45, sR_98_47, sR_98_49, sR_98_51, sR_98_56, sR_98_58, sR_98_62, sR_98_65, sR_98_66, sR_98_69, q1]
