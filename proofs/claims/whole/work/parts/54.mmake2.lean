/-! the reference's tables, continued -/
def sOrdN (A : AS) (f n : Nat) : List Nat := nfo (fun b l => if aOf A b == f then insL (fun k => sAhd A f b (l.getD k 0)) b l else l) n []
def sOrd (A : AS) (f : Nat) : List Nat := sOrdN A f (aNb A)
theorem cntN_mono (p : Nat → Bool) {i n : Nat} (h : i ≤ n) : cntN p i ≤ cntN p n := by
  induction n with
  | zero => have : i = 0 := by omega
            subst this; exact Nat.le_refl _
  | succ n ih =>
    by_cases e : i = n + 1
    · subst e; exact Nat.le_refl _
    · have := ih (by omega)
      have h2 : cntN p (n + 1) = if p n then cntN p n + 1 else cntN p n := rfl
      rw [h2]
      split <;> omega
theorem sOrdN_len (A : AS) (f : Nat) : ∀ n, (sOrdN A f n).length = cntN (fun b => aOf A b == f) n := by
  intro n
  induction n with
  | zero => rfl
  | succ n ih =>
    have h1 : sOrdN A f (n + 1) = if aOf A n == f then insL (fun k => sAhd A f n ((sOrdN A f n).getD k 0)) n (sOrdN A f n) else sOrdN A f n := rfl
    have h2 : cntN (fun b => aOf A b == f) (n + 1) = if aOf A n == f then cntN (fun b => aOf A b == f) n + 1 else cntN (fun b => aOf A b == f) n := rfl
    rw [h1, h2]
    split
    · rw [insL_len, ih]
    · exact ih
theorem sOrdN_mem {A : AS} {f : Nat} : ∀ {n x}, x ∈ sOrdN A f n → x < n ∧ aOf A x = f := by
  intro n
  induction n with
  | zero => intro x h; cases h
  | succ n ih =>
    intro x h
    have h1 : sOrdN A f (n + 1) = if aOf A n == f then insL (fun k => sAhd A f n ((sOrdN A f n).getD k 0)) n (sOrdN A f n) else sOrdN A f n := rfl
    rw [h1] at h
    by_cases q : aOf A n = f
    · simp only [q, beq_self_eq_true, if_true] at h
      rcases insL_mem h with h | h
      · subst h; exact ⟨by omega, q⟩
      · have := ih h; exact ⟨by omega, this.2⟩
    · have q' : (aOf A n == f) = false := by simpa using q
      rw [q'] at h
      have := ih h
      exact ⟨by omega, this.2⟩
theorem sOrd_ok {A : AS} (w : WF A) (f : Nat) : (sOrd A f).length ≤ 8 ∧ ∀ x ∈ sOrd A f, x < aNb A ∧ aOf A x = f := by
  refine ⟨?_, fun x hx => sOrdN_mem hx⟩
  unfold sOrd
  rw [sOrdN_len]
  exact w.2.2.1.2.2.1 f
theorem e_mk_1 {A : AS} {h : jHp} (k : RMK A h) {f : Nat} (hf : f < 4) (j0 : Value) :
    ∃ h' j, s_loop 1 2 lc_M_make1_1 lb_M_make1_1 lu_M_make1_1 ([.ref 98, .int (nI f), .int (nI 0), .int (nI 0), j0], h) = some (.inl 0, ([.ref 98, .int (nI f), .int (nI (sOrd A f).length), .int (nI (aNb A)), j], h')) ∧ Fr (W126 f) h h' ∧ (∀ j, j < (sOrd A f).length → hI h' 126 (8 * f + j) = nI ((sOrd A f).getD j 0)) := by
  have w := k.2.1
  have h20 := w.2.2.1.1
  have hno := w.2.1
  have hcn := w.2.2.1.2.2.1 f
  have hX := loop_wp (lb := 1) (lc := 2) (c := lc_M_make1_1) (b := lb_M_make1_1) (u := lu_M_make1_1) (aNb A)
    (fun i st => ∃ h' j, st = ([.ref 98, .int (nI f), .int (nI (sOrdN A f i).length), .int (nI i), j], h') ∧ Fr (W126 f) h h' ∧ (∀ j, j < (sOrdN A f i).length → hI h' 126 (8 * f + j) = nI ((sOrdN A f i).getD j 0)))
    (fun r => ∃ h' j, r = (.inl 0, ([.ref 98, .int (nI f), .int (nI (sOrd A f).length), .int (nI (aNb A)), j], h')) ∧ Fr (W126 f) h h' ∧ (∀ j, j < (sOrd A f).length → hI h' 126 (8 * f + j) = nI ((sOrd A f).getD j 0)))
    ?_ ?_ ([.ref 98, .int (nI f), .int (nI 0), .int (nI 0), j0], h) ⟨h, j0, rfl, Fr_refl _ _, fun j hj => by cases hj⟩
  · obtain ⟨r, h1, h', j, rfl, h2⟩ := hX
    exact ⟨h', j, h1, h2⟩
  · rintro i st hi ⟨h1, j, rfl, p1, p2⟩
    left
    have k1 := RMK_fr k p1 (W126_cM f)
    have hs := k1.1
    have q1 := k1.2.2.2.1.2.1
    obtain ⟨-, e1, -⟩ := k1.2.2.2.1.2.2 i hi
    have l1 := (w.2.2.1.2.1 i hi).2.1
    have hlen := sOrdN_len A f i
    have hlen1 := sOrdN_len A f (i + 1)
    have hmono := cntN_mono (fun b => aOf A b == f) (i := i + 1) (n := aNb A) (by omega)
    have hmem : ∀ x ∈ sOrdN A f i, x < aNb A := fun x hx => by have := (sOrdN_mem hx).1; omega
    have hst : sOrdN A f (i + 1) = if aOf A i == f then insL (fun k => sAhd A f i ((sOrdN A f i).getD k 0)) i (sOrdN A f i) else sOrdN A f i := rfl
    by_cases hx : aOf A i = f
    · rw [if_pos (by simpa using hx)] at hst
      rw [hst] at hlen1 ⊢
      rw [insL_len] at hlen1
      generalize sOrdN A f i = l at *
      obtain ⟨h2, i1, i2, i3, i4⟩ := e_mk_ins k1 (f := f) (b := i) (l := l) hf hi (by omega) hmem p2 (nI (l.length + 1))
      have hpl := insP_le (fun k => sAhd A f i (l.getD k 0)) l.length
      have hg := insL_get (fun k => sAhd A f i (l.getD k 0)) i l
      have hs2 := Fr_shape hs i2
      rw [insL_len]
      generalize insP (fun k => sAhd A f i (l.getD k 0)) l.length = pos at *
      refine ⟨([.ref 98, .int (nI f), .int (nI (l.length + 1)), .int (nI (i + 1)), .int (nI pos)], hSetI h2 126 (8 * f + pos) (nI i)), ?_, _, _, rfl, Fr_trans (Fr_trans p1 i2) (Fr_set _ ⟨rfl, by omega, by omega⟩), ?_⟩
      · simp (disch := first | assumption | omega) [lstp, lc_M_make1_1, lb_M_make1_1, lu_M_make1_1, j_meth, j_out, j_rok, j_pad, lg_sl, s_seq_w, isN_inl, isN_inr, s_if, jb, x_c, x_iloc, x_aloc, x_lloc, x_bin, x_un, o_add, o_sub, o_mul, o_and, o_or, o_xor, o_shl, o_shr, o_ushr, o_max, o_min, o_i2b, o_i2c, o_i2l, o_l2i, x_fld, j_fget, x_idx, j_aget, x_len, j_alen, x_ofb, x_ite, xs_nil, xs_cons, x_callv, x_calls, s_callv, s_calls, j_recv, j_ret, j_retv, b_cmp, b_and, b_or, b_not, b_ofi, b_ite, b_true, s_skip, s_set, j_ty, j_lset, j_kill, s_inc, s_fput, j_fput, s_fop, s_aput, j_aput, j_nar, s_aop, s_ret, s_retv, s_go, s_pop, x_linc, x_finc, Value.category, if_icmp.holds, List.flatMap_cons, List.flatMap_nil, List.length_cons, List.length_append, List.length_nil, List.set_cons_succ, List.set_cons_zero, List.getElem?_cons_succ, List.getElem?_cons_zero, List.replicate, ite_and', ite_or', ite_int', nI_leI, nI_ltI, nI_eq, nI_add, nI_1, pk_mul, nI_clamp, n_in', nI_pos', nI_pos, n_m1e, n_01, n_10, sT_98, sT_99, sT_100, sT_101, sT_102, sT_103, sT_104, sT_105, sT_106, sT_107, sT_108, sT_109, sT_110, sT_111, sT_112, sT_113, sT_114, sT_115, sT_116, sT_117, sT_118, sT_119, sT_120, sT_121, sT_122, sT_123, sT_124, sT_125, sT_126, sT_127, sT_128, sT_129, sT_130, sT_131, sT_132, sT_133, sT_134, sT_135, sT_136, sT_137, sT_138, sT_139, sT_140, sR_98_1, sR_98_4, sR_98_5, sR_98_6, sR_98_7, sR_98_8, sR_98_9, sR_98_10, sR_98_12, sR_98_13, sR_98_14, sR_98_15, sR_98_16, sR_98_17, sR_98_18, sR_98_19, sR_98_20, sR_98_21, sR_98_22, sR_98_23, sR_98_24, sR_98_25, sR_98_26, sR_98_27, sR_98_28, sR_98_29, sR_98_31, sR_98_34, sR_98_35, sR_98_36, sR_98_42, sR_98_44, sR_98_45, sR_98_47, sR_98_49, sR_98_51, sR_98_56, sR_98_58, sR_98_62, sR_98_65, sR_98_66, sR_98_69, hs, hs2, q1, hi, e1, hx, i1]
      · intro j hj
        rw [hg j (by omega), hI_setI]
        by_cases hj1 : j < pos
        · rw [if_neg (by omega), if_pos hj1]; exact i3 j hj1
        · by_cases hj2 : j = pos
          · rw [if_pos (by omega), if_neg hj1, if_pos hj2]
          · rw [if_neg (by omega), if_neg hj1, if_neg hj2]; exact i4 j (by omega) (by omega)
    · rw [if_neg (by simpa using hx)] at hst
      rw [hst]
      refine ⟨([.ref 98, .int (nI f), .int (nI (sOrdN A f i).length), .int (nI (i + 1)), j], h1), ?_, _, _, rfl, p1, p2⟩
      simp (disch := first | assumption | omega) [lstp, lc_M_make1_1, lb_M_make1_1, lu_M_make1_1, j_meth, j_out, j_rok, j_pad, lg_sl, s_seq_w, isN_inl, isN_inr, s_if, jb, x_c, x_iloc, x_aloc, x_lloc, x_bin, x_un, o_add, o_sub, o_mul, o_and, o_or, o_xor, o_shl, o_shr, o_ushr, o_max, o_min, o_i2b, o_i2c, o_i2l, o_l2i, x_fld, j_fget, x_idx, j_aget, x_len, j_alen, x_ofb, x_ite, xs_nil, xs_cons, x_callv, x_calls, s_callv, s_calls, j_recv, j_ret, j_retv, b_cmp, b_and, b_or, b_not, b_ofi, b_ite, b_true, s_skip, s_set, j_ty, j_lset, j_kill, s_inc, s_fput, j_fput, s_fop, s_aput, j_aput, j_nar, s_aop, s_ret, s_retv, s_go, s_pop, x_linc, x_finc, Value.category, if_icmp.holds, List.flatMap_cons, List.flatMap_nil, List.length_cons, List.length_append, List.length_nil, List.set_cons_succ, List.set_cons_zero, List.getElem?_cons_succ, List.getElem?_cons_zero, List.replicate, ite_and', ite_or', ite_int', nI_leI, nI_ltI, nI_eq, nI_add, nI_1, pk_mul, nI_clamp, n_in', nI_pos', nI_pos, n_m1e, n_01, n_10, sT_98, sT_99, sT_100, sT_101, sT_102, sT_103, sT_104, sT_105, sT_106, sT_107, sT_108, sT_109, sT_110, sT_111, sT_112, sT_113, sT_114, sT_115, sT_116, sT_117, sT_118, sT_119, sT_120, sT_121, sT_122, sT_123, sT_124, sT_125, sT_126, sT_127, sT_128, sT_129, sT_130, sT_131, sT_132, sT_133, sT_134, sT_135, sT_136, sT_137, sT_138, sT_139, sT_140, sR_98_1, sR_98_4, sR_98_5, sR_98_6, sR_98_7, sR_98_8, sR_98_9, sR_98_10, sR_98_12, sR_98_13, sR_98_14, sR_98_15, sR_98_16, sR_98_17, sR_98_18, sR_98_19, sR_98_20, sR_98_21, sR_98_22, sR_98_23, sR_98_24, sR_98_25, sR_98_26, sR_98_27, sR_98_28, sR_98_29, sR_98_31, sR_98_34, sR_98_35, sR_98_36, sR_98_42, sR_98_44, sR_98_45, sR_98_47, sR_98_49, sR_98_51, sR_98_56, sR_98_58, sR_98_62, sR_98_65, sR_98_66, sR_98_69, hs, q1, hi, e1, hx]
  · rintro st ⟨h1, j, rfl, p1, p2⟩
    have k1 := RMK_fr k p1 (W126_cM f)
    have hs := k1.1
    have q1 := k1.2.2.2.1.2.1
    refine ⟨(.inl 0, ([.ref 98, .int (nI f), .int (nI (sOrdN A f (aNb A)).length), .int (nI (aNb A)), j], h1)), ?_, h1, j, rfl, p1, p2⟩
    simp (disch := first | assumption | omega) [lstp, lc_M_make1_1, j_meth, j_out, j_rok, j_pad, lg_sl, s_seq_w, isN_inl, isN_inr, s_if, jb, x_c, x_iloc, x_aloc, x_lloc, x_bin, x_un, o_add, o_sub, o_mul, o_and, o_or, o_xor, o_shl, o_shr, o_ushr, o_max, o_min, o_i2b, o_i2c, o_i2l, o_l2i, x_fld, j_fget, x_idx, j_aget, x_len, j_alen, x_ofb, x_ite, xs_nil, xs_cons, x_callv, x_calls, s_callv, s_calls, j_recv, j_ret, j_retv, b_cmp, b_and, b_or, b_not, b_ofi, b_ite, b_true, s_skip, s_set, j_ty, j_lset, j_kill, s_inc, s_fput, j_fput, s_fop, s_aput, j_aput, j_nar, s_aop, s_ret, s_retv, s_go, s_pop, x_linc, x_finc, Value.category, if_icmp.holds, List.flatMap_cons, List.flatMap_nil, List.length_cons, List.length_append, List.length_nil, List.set_cons_succ, List.set_cons_zero, List.getElem?_cons_succ, List.getElem?_cons_zero, List.replicate, ite_and', ite_or', ite_int', nI_leI, nI_ltI, nI_eq, nI_add, nI_1, pk_mul, nI_clamp, n_in', nI_pos', nI_pos, n_m1e, n_01, n_10, sT_98, sT_99, sT_100, sT_101, sT_102, sT_103, sT_104, sT_105, sT_106, sT_107, sT_108, sT_109, sT_110, sT_111, sT_112, sT_113, sT_114, sT_115, sT_116, sT_117, sT_118, sT_119, sT_120, sT_121, sT_122, sT_123, sT_124, sT_125, sT_126, sT_127, sT_128, sT_129, sT_130, sT_131, sT_132, sT_133, sT_134, sT_135, sT_136, sT_137, sT_138, sT_139, sT_140, sR_98_1, sR_98_4, sR_98_5, sR_98_6, sR_98_7, sR_98_8, sR_98_9, sR_98_10, sR_98_12, sR_98_13, sR_98_14, sR_98_15, sR_98_16, sR_98_17, sR_98_18, sR_98_19, sR_98_20, sR_98_21, sR_98_22, sR_98_23, sR_98_24, sR_98_25, sR_98_26, sR_98_27, sR_98_28, sR_98_29, sR_98_31, sR_98_34, sR_98_35, sR_98_36, sR_98_42, sR_98_44, sR_98_45, sR_98_47, sR_98_49, sR_98_51, sR_98_56, sR_98_58, sR_98_62, sR_98_65, sR_98_66, sR_98_69, hs, q1]
