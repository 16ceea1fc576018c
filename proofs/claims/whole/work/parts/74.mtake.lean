/-! the reference: take, why, order, law -/
def vTake (A : AS) (f x : Int32) : Int32 := if j_in f (aNo A) ∧ j_in x (2 ^ aNb A) then nI (sTk A f.toNatClampNeg x.toNatClampNeg) else -1
theorem Wmk_op : ∀ a k, Wmk a k → Wop a k := by unfold Wmk Wop; intro a k; omega
theorem Wmk_rw : ∀ a k, Wmk a k → ¬ Wrw a k := by unfold Wmk Wrw; intro a k; omega
theorem MX_rw {A : AS} {rw : List Int32} {h h1 : jHp} (r : RRw rw h) (m : MX A h h1) : RRw rw h1 := RRw_mw (W := Wmk) r m Wmk_rw
theorem o_M_take {A : AS} {tx : List Nat} {rw : List Int32} {h : jHp} (r : RMX A tx rw h) (f x : Int32) : ∃ h', f_M_take [.ref 98, .int f, .int x] h = some (some (.int (vTake A f x)), h') ∧ RMX A tx rw h' ∧ Fr WM h h' := by
  have hs := r.1.1
  have w := r.1.2.1
  have hno := w.2.1
  have hp := p20 w
  have r0 := RMX_33 r (nI 0)
  have m0 := op_33 r
  have hs0 := r0.1.1
  have ef := e_M_isOffice hs0 w r0.1.2.2.2.1 f
  have ex := e_M_isSet hs0 w r0.1.2.2.2.1 x
  generalize hh0 : hSetI h 98 33 (nI 0) = h0 at *
  have hh0' : hSetI h 98 33 0 = h0 := by rw [← hh0, nI_0]
  unfold vTake
  by_cases hf : j_in f (aNo A) = true
  · by_cases hx : j_in x (2 ^ aNb A) = true
    · rw [if_pos ⟨hf, hx⟩]
      rw [if_pos hf] at ef
      rw [if_pos hx] at ex
      obtain ⟨f, hf', rfl⟩ := j_in_ex hf (by omega)
      obtain ⟨S, hS, rfl⟩ := j_in_ex hx (by omega)
      rw [nI_clamp (by omega), nI_clamp (by omega)]
      obtain ⟨h1, e1, m1⟩ := x_M_takeOf r0.1 r0.2.1 hf' (S := S) (by omega)
      have hlt := sTk_lt w f S
      refine ⟨h1, ?_, op_fin r (MW_trans m0 (MX_MW m1 Wmk_op)) (MX_rw r0.2.2.2.1 m1)⟩
      simp (disch := first | assumption | omega) [f_M_take, body_M_take, j_meth, j_out, j_rok, j_pad, lg_sl, s_seq_w, isN_inl, isN_inr, s_if, jb, x_c, x_iloc, x_aloc, x_lloc, x_bin, x_un, o_add, o_sub, o_mul, o_and, o_or, o_xor, o_shl, o_shr, o_ushr, o_max, o_min, o_i2b, o_i2c, o_i2l, o_l2i, x_fld, j_fget, x_idx, j_aget, x_len, j_alen, x_ofb, x_ite, xs_nil, xs_cons, x_callv, x_calls, s_callv, s_calls, j_recv, j_ret, j_retv, b_cmp, b_and, b_or, b_not, b_ofi, b_ite, b_true, s_skip, s_set, j_ty, j_lset, j_kill, s_inc, s_fput, j_fput, s_fop, s_aput, j_aput, j_nar, s_aop, s_ret, s_retv, s_go, s_pop, x_linc, x_finc, Value.category, if_icmp.holds, List.flatMap_cons, List.flatMap_nil, List.length_cons, List.length_append, List.length_nil, List.set_cons_succ, List.set_cons_zero, List.getElem?_cons_succ, List.getElem?_cons_zero, List.replicate, ite_and', ite_or', ite_int', nI_leI, nI_ltI, nI_eq, nI_add, nI_1, pk_mul, nI_clamp, n_in', nI_pos', nI_pos, n_m1e, n_01, n_10, sT_98, sT_99, sT_100, sT_101, sT_102, sT_103, sT_104, sT_105, sT_106, sT_107, sT_108, sT_109, sT_110, sT_111, sT_112, sT_113, sT_114, sT_115, sT_116, sT_117, sT_118, sT_119, sT_120, sT_121, sT_122, sT_123, sT_124, sT_125, sT_126, sT_127, sT_128, sT_129, sT_130, sT_131, sT_132, sT_133, sT_134, sT_135, sT_136, sT_137, sT_138, sT_139, sT_140, sR_98_1, sR_98_4, sR_98_5, sR_98_6, sR_98_7, sR_98_8, sR_98_9, sR_98_10, sR_98_12, sR_98_13, sR_98_14, sR_98_15, sR_98_16, sR_98_17, sR_98_18, sR_98_19, sR_98_20, sR_98_21, sR_98_22, sR_98_23, sR_98_24, sR_98_25, sR_98_26, sR_98_27, sR_98_28, sR_98_29, sR_98_31, sR_98_34, sR_98_35, sR_98_36, sR_98_42, sR_98_44, sR_98_45, sR_98_47, sR_98_49, sR_98_51, sR_98_56, sR_98_58, sR_98_62, sR_98_65, sR_98_66, sR_98_69, nI_0, hh0', ef, ex, e1]
    · rw [if_neg (fun q => hx q.2)]
      rw [if_pos hf] at ef
      rw [if_neg hx] at ex
      refine ⟨h0, ?_, op_fin r m0 r0.2.2.2.1⟩
      simp (disch := first | assumption | omega) [f_M_take, body_M_take, j_meth, j_out, j_rok, j_pad, lg_sl, s_seq_w, isN_inl, isN_inr, s_if, jb, x_c, x_iloc, x_aloc, x_lloc, x_bin, x_un, o_add, o_sub, o_mul, o_and, o_or, o_xor, o_shl, o_shr, o_ushr, o_max, o_min, o_i2b, o_i2c, o_i2l, o_l2i, x_fld, j_fget, x_idx, j_aget, x_len, j_alen, x_ofb, x_ite, xs_nil, xs_cons, x_callv, x_calls, s_callv, s_calls, j_recv, j_ret, j_retv, b_cmp, b_and, b_or, b_not, b_ofi, b_ite, b_true, s_skip, s_set, j_ty, j_lset, j_kill, s_inc, s_fput, j_fput, s_fop, s_aput, j_aput, j_nar, s_aop, s_ret, s_retv, s_go, s_pop, x_linc, x_finc, Value.category, if_icmp.holds, List.flatMap_cons, List.flatMap_nil, List.length_cons, List.length_append, List.length_nil, List.set_cons_succ, List.set_cons_zero, List.getElem?_cons_succ, List.getElem?_cons_zero, List.replicate, ite_and', ite_or', ite_int', nI_leI, nI_ltI, nI_eq, nI_add, nI_1, pk_mul, nI_clamp, n_in', nI_pos', nI_pos, n_m1e, n_01, n_10, sT_98, sT_99, sT_100, sT_101, sT_102, sT_103, sT_104, sT_105, sT_106, sT_107, sT_108, sT_109, sT_110, sT_111, sT_112, sT_113, sT_114, sT_115, sT_116, sT_117, sT_118, sT_119, sT_120, sT_121, sT_122, sT_123, sT_124, sT_125, sT_126, sT_127, sT_128, sT_129, sT_130, sT_131, sT_132, sT_133, sT_134, sT_135, sT_136, sT_137, sT_138, sT_139, sT_140, sR_98_1, sR_98_4, sR_98_5, sR_98_6, sR_98_7, sR_98_8, sR_98_9, sR_98_10, sR_98_12, sR_98_13, sR_98_14, sR_98_15, sR_98_16, sR_98_17, sR_98_18, sR_98_19, sR_98_20, sR_98_21, sR_98_22, sR_98_23, sR_98_24, sR_98_25, sR_98_26, sR_98_27, sR_98_28, sR_98_29, sR_98_31, sR_98_34, sR_98_35, sR_98_36, sR_98_42, sR_98_44, sR_98_45, sR_98_47, sR_98_49, sR_98_51, sR_98_56, sR_98_58, sR_98_62, sR_98_65, sR_98_66, sR_98_69, nI_0, hh0', ef, ex]
  · rw [if_neg (fun q => hf q.1)]
    rw [if_neg hf] at ef
    refine ⟨h0, ?_, op_fin r m0 r0.2.2.2.1⟩
    simp (disch := first | assumption | omega) [f_M_take, body_M_take, j_meth, j_out, j_rok, j_pad, lg_sl, s_seq_w, isN_inl, isN_inr, s_if, jb, x_c, x_iloc, x_aloc, x_lloc, x_bin, x_un, o_add, o_sub, o_mul, o_and, o_or, o_xor, o_shl, o_shr, o_ushr, o_max, o_min, o_i2b, o_i2c, o_i2l, o_l2i, x_fld, j_fget, x_idx, j_aget, x_len, j_alen, x_ofb, x_ite, xs_nil, xs_cons, x_callv, x_calls, s_callv, s_calls, j_recv, j_ret, j_retv, b_cmp, b_and, b_or, b_not, b_ofi, b_ite, b_true, s_skip, s_set, j_ty, j_lset, j_kill, s_inc, s_fput, j_fput, s_fop, s_aput, j_aput, j_nar, s_aop, s_ret, s_retv, s_go, s_pop, x_linc, x_finc, Value.category, if_icmp.holds, List.flatMap_cons, List.flatMap_nil, List.length_cons, List.length_append, List.length_nil, List.set_cons_succ, List.set_cons_zero, List.getElem?_cons_succ, List.getElem?_cons_zero, List.replicate, ite_and', ite_or', ite_int', nI_leI, nI_ltI, nI_eq, nI_add, nI_1, pk_mul, nI_clamp, n_in', nI_pos', nI_pos, n_m1e, n_01, n_10, sT_98, sT_99, sT_100, sT_101, sT_102, sT_103, sT_104, sT_105, sT_106, sT_107, sT_108, sT_109, sT_110, sT_111, sT_112, sT_113, sT_114, sT_115, sT_116, sT_117, sT_118, sT_119, sT_120, sT_121, sT_122, sT_123, sT_124, sT_125, sT_126, sT_127, sT_128, sT_129, sT_130, sT_131, sT_132, sT_133, sT_134, sT_135, sT_136, sT_137, sT_138, sT_139, sT_140, sR_98_1, sR_98_4, sR_98_5, sR_98_6, sR_98_7, sR_98_8, sR_98_9, sR_98_10, sR_98_12, sR_98_13, sR_98_14, sR_98_15, sR_98_16, sR_98_17, sR_98_18, sR_98_19, sR_98_20, sR_98_21, sR_98_22, sR_98_23, sR_98_24, sR_98_25, sR_98_26, sR_98_27, sR_98_28, sR_98_29, sR_98_31, sR_98_34, sR_98_35, sR_98_36, sR_98_42, sR_98_44, sR_98_45, sR_98_47, sR_98_49, sR_98_51, sR_98_56, sR_98_58, sR_98_62, sR_98_65, sR_98_66, sR_98_69, nI_0, hh0', ef]
-- the ORDER holds each BOND of the OFFICE
theorem insL_mem2 {p : Nat → Bool} {b : Nat} {l : List Nat} : b ∈ insL p b l ∧ ∀ x ∈ l, x ∈ insL p b l := by
  unfold insL
  refine ⟨by simp, fun x hx => ?_⟩
  rw [← List.take_append_drop (insP p l.length) l] at hx
  rcases List.mem_append.mp hx with q | q
  · exact List.mem_append.mpr (Or.inl q)
  · exact List.mem_append.mpr (Or.inr (List.mem_cons_of_mem _ q))
theorem sOrdN_all {A : AS} {f : Nat} : ∀ {n x}, x < n → aOf A x = f → x ∈ sOrdN A f n := by
  intro n
  induction n with
  | zero => intro x h; omega
  | succ n ih =>
    intro x h hx
    have h1 : sOrdN A f (n + 1) = if aOf A n == f then insL (fun k => sAhd A f n ((sOrdN A f n).getD k 0)) n (sOrdN A f n) else sOrdN A f n := rfl
    rw [h1]
    by_cases e : x = n
    · subst e
      rw [if_pos (by simpa using hx)]
      exact insL_mem2.1
    · have := ih (by omega) hx
      split
      · exact insL_mem2.2 x this
      · exact this
theorem sOrd_all {A : AS} {x : Nat} (h : x < aNb A) : x ∈ sOrd A (aOf A x) := sOrdN_all h rfl
def idxL (l : List Nat) (b : Nat) : Nat := (fst1 (fun k => l.getD k 0 == b) l.length).getD 0
theorem idxL_ok {l : List Nat} {b : Nat} (h : b ∈ l) : idxL l b < l.length ∧ l.getD (idxL l b) 0 = b ∧ ∀ k, k < idxL l b → l.getD k 0 ≠ b := by
  obtain ⟨i, hi, e⟩ := List.mem_iff_getElem.mp h
  have hg : l.getD i 0 = b := by rw [List.getD_eq_getElem?_getD, List.getElem?_eq_getElem hi]; exact e
  unfold idxL
  cases hf : fst1 (fun k => l.getD k 0 == b) l.length with
  | none =>
    have := fst1_none hf i hi
    rw [beq_eq_false_iff_ne] at this
    exact absurd hg this
  | some j =>
    obtain ⟨a1, a2, a3⟩ := fst1_some hf
    refine ⟨a1, by simpa using a2, fun k hk => ?_⟩
    have := a3 k hk
    simpa using this
def vOrder (A : AS) (x : Int32) : Int32 := if j_in x (aNb A) then nI (idxL (sOrd A (aOf A x.toNatClampNeg)) x.toNatClampNeg) else -1
theorem o_M_order {A : AS} {tx : List Nat} {rw : List Int32} {h : jHp} (r : RMX A tx rw h) (x : Int32) : ∃ h', f_M_order [.ref 98, .int x] h = some (some (.int (vOrder A x)), h') ∧ RMX A tx rw h' ∧ Fr WM h h' := by
  have hs := r.1.1
  have w := r.1.2.1
  have hno := w.2.1
  have h20 := w.2.2.1.1
  have r0 := RMX_33 r (nI 0)
  have m0 := op_33 r
  have hs0 := r0.1.1
  have ex := e_M_isBond hs0 w r0.1.2.2.2.1 x
  generalize hh0 : hSetI h 98 33 (nI 0) = h0 at *
  have hh0' : hSetI h 98 33 0 = h0 := by rw [← hh0, nI_0]
  unfold vOrder
  by_cases hx : j_in x (aNb A) = true
  · rw [if_pos hx] at ex ⊢
    obtain ⟨b, hb, rfl⟩ := j_in_ex hx (by omega)
    rw [nI_clamp (by omega)]
    obtain ⟨h1, e1, f1, g1, g2⟩ := e_M_make r0.1 r0.2.1
    have k1 := RMK_fr r0.1 f1 Wmk_cM
    have hs1 := k1.1
    have hof := (w.2.2.1.2.1 b hb).2.1
    obtain ⟨⟨o1, o2⟩, -⟩ := g2 _ hof
    obtain ⟨i1, i2, i3⟩ := idxL_ok (sOrd_all hb)
    obtain ⟨hl8, hmem⟩ := sOrd_ok w (aOf A b)
    have m1 : MX A h0 h1 := ⟨f1, k1, Or.inr ⟨g1, g2⟩⟩
    obtain ⟨-, q5, -⟩ := k1.2.2.2.1.2.2 b hb
    refine ⟨h1, ?_, op_fin r (MW_trans m0 (MX_MW m1 Wmk_op)) (MX_rw r0.2.2.2.1 m1)⟩
    generalize hl : sOrd A (aOf A b) = l at *
    generalize hff : aOf A b = f at *
    have hL := loop_wp (lb := 1) (lc := 2) (c := lc_M_order_1) (b := lb_M_order_1) (u := lu_M_order_1) (idxL l b)
      (fun i st => st = ([.ref 98, .int (nI b), .int (nI i)], h1))
      (fun r => r = (.inl 0, ([.ref 98, .int (nI b), .int (nI (idxL l b))], h1)))
      ?_ ?_ ([.ref 98, .int (nI b), .int (nI 0)], h1) rfl
    · obtain ⟨r, e2, rfl⟩ := hL
      simp only [nI_0] at e2
      simp (disch := first | assumption | omega) [f_M_order, body_M_order, j_meth, j_out, j_rok, j_pad, lg_sl, s_seq_w, isN_inl, isN_inr, s_if, jb, x_c, x_iloc, x_aloc, x_lloc, x_bin, x_un, o_add, o_sub, o_mul, o_and, o_or, o_xor, o_shl, o_shr, o_ushr, o_max, o_min, o_i2b, o_i2c, o_i2l, o_l2i, x_fld, j_fget, x_idx, j_aget, x_len, j_alen, x_ofb, x_ite, xs_nil, xs_cons, x_callv, x_calls, s_callv, s_calls, j_recv, j_ret, j_retv, b_cmp, b_and, b_or, b_not, b_ofi, b_ite, b_true, s_skip, s_set, j_ty, j_lset, j_kill, s_inc, s_fput, j_fput, s_fop, s_aput, j_aput, j_nar, s_aop, s_ret, s_retv, s_go, s_pop, x_linc, x_finc, Value.category, if_icmp.holds, List.flatMap_cons, List.flatMap_nil, List.length_cons, List.length_append, List.length_nil, List.set_cons_succ, List.set_cons_zero, List.getElem?_cons_succ, List.getElem?_cons_zero, List.replicate, ite_and', ite_or', ite_int', nI_leI, nI_ltI, nI_eq, nI_add, nI_1, pk_mul, nI_clamp, n_in', nI_pos', nI_pos, n_m1e, n_01, n_10, sT_98, sT_99, sT_100, sT_101, sT_102, sT_103, sT_104, sT_105, sT_106, sT_107, sT_108, sT_109, sT_110, sT_111, sT_112, sT_113, sT_114, sT_115, sT_116, sT_117, sT_118, sT_119, sT_120, sT_121, sT_122, sT_123, sT_124, sT_125, sT_126, sT_127, sT_128, sT_129, sT_130, sT_131, sT_132, sT_133, sT_134, sT_135, sT_136, sT_137, sT_138, sT_139, sT_140, sR_98_1, sR_98_4, sR_98_5, sR_98_6, sR_98_7, sR_98_8, sR_98_9, sR_98_10, sR_98_12, sR_98_13, sR_98_14, sR_98_15, sR_98_16, sR_98_17, sR_98_18, sR_98_19, sR_98_20, sR_98_21, sR_98_22, sR_98_23, sR_98_24, sR_98_25, sR_98_26, sR_98_27, sR_98_28, sR_98_29, sR_98_31, sR_98_34, sR_98_35, sR_98_36, sR_98_42, sR_98_44, sR_98_45, sR_98_47, sR_98_49, sR_98_51, sR_98_56, sR_98_58, sR_98_62, sR_98_65, sR_98_66, sR_98_69, nI_0, hh0', ex, e1, e2]
    · rintro i st hi rfl
      left
      have g := o2 i (by omega)
      have hne := i3 i hi
      have hx := (hmem _ (getD_mem' (l := l) (i := i) (d := 0) (by omega))).1
      refine ⟨_, ?_, rfl⟩
      generalize l.getD i 0 = y at *
      simp (disch := first | assumption | omega) [lstp, lc_M_order_1, lb_M_order_1, lu_M_order_1, j_meth, j_out, j_rok, j_pad, lg_sl, s_seq_w, isN_inl, isN_inr, s_if, jb, x_c, x_iloc, x_aloc, x_lloc, x_bin, x_un, o_add, o_sub, o_mul, o_and, o_or, o_xor, o_shl, o_shr, o_ushr, o_max, o_min, o_i2b, o_i2c, o_i2l, o_l2i, x_fld, j_fget, x_idx, j_aget, x_len, j_alen, x_ofb, x_ite, xs_nil, xs_cons, x_callv, x_calls, s_callv, s_calls, j_recv, j_ret, j_retv, b_cmp, b_and, b_or, b_not, b_ofi, b_ite, b_true, s_skip, s_set, j_ty, j_lset, j_kill, s_inc, s_fput, j_fput, s_fop, s_aput, j_aput, j_nar, s_aop, s_ret, s_retv, s_go, s_pop, x_linc, x_finc, Value.category, if_icmp.holds, List.flatMap_cons, List.flatMap_nil, List.length_cons, List.length_append, List.length_nil, List.set_cons_succ, List.set_cons_zero, List.getElem?_cons_succ, List.getElem?_cons_zero, List.replicate, ite_and', ite_or', ite_int', nI_leI, nI_ltI, nI_eq, nI_add, nI_1, pk_mul, nI_clamp, n_in', nI_pos', nI_pos, n_m1e, n_01, n_10, sT_98, sT_99, sT_100, sT_101, sT_102, sT_103, sT_104, sT_105, sT_106, sT_107, sT_108, sT_109, sT_110, sT_111, sT_112, sT_113, sT_114, sT_115, sT_116, sT_117, sT_118, sT_119, sT_120, sT_121, sT_122, sT_123, sT_124, sT_125, sT_126, sT_127, sT_128, sT_129, sT_130, sT_131, sT_132, sT_133, sT_134, sT_135, sT_136, sT_137, sT_138, sT_139, sT_140, sR_98_1, sR_98_4, sR_98_5, sR_98_6, sR_98_7, sR_98_8, sR_98_9, sR_98_10, sR_98_12, sR_98_13, sR_98_14, sR_98_15, sR_98_16, sR_98_17, sR_98_18, sR_98_19, sR_98_20, sR_98_21, sR_98_22, sR_98_23, sR_98_24, sR_98_25, sR_98_26, sR_98_27, sR_98_28, sR_98_29, sR_98_31, sR_98_34, sR_98_35, sR_98_36, sR_98_42, sR_98_44, sR_98_45, sR_98_47, sR_98_49, sR_98_51, sR_98_56, sR_98_58, sR_98_62, sR_98_65, sR_98_66, sR_98_69, q5, g, hne]
    · rintro st rfl
      have g := o2 _ i1
      rw [i2] at g
      refine ⟨_, ?_, rfl⟩
      generalize idxL l b = i at *
      simp (disch := first | assumption | omega) [lstp, lc_M_order_1, lb_M_order_1, lu_M_order_1, j_meth, j_out, j_rok, j_pad, lg_sl, s_seq_w, isN_inl, isN_inr, s_if, jb, x_c, x_iloc, x_aloc, x_lloc, x_bin, x_un, o_add, o_sub, o_mul, o_and, o_or, o_xor, o_shl, o_shr, o_ushr, o_max, o_min, o_i2b, o_i2c, o_i2l, o_l2i, x_fld, j_fget, x_idx, j_aget, x_len, j_alen, x_ofb, x_ite, xs_nil, xs_cons, x_callv, x_calls, s_callv, s_calls, j_recv, j_ret, j_retv, b_cmp, b_and, b_or, b_not, b_ofi, b_ite, b_true, s_skip, s_set, j_ty, j_lset, j_kill, s_inc, s_fput, j_fput, s_fop, s_aput, j_aput, j_nar, s_aop, s_ret, s_retv, s_go, s_pop, x_linc, x_finc, Value.category, if_icmp.holds, List.flatMap_cons, List.flatMap_nil, List.length_cons, List.length_append, List.length_nil, List.set_cons_succ, List.set_cons_zero, List.getElem?_cons_succ, List.getElem?_cons_zero, List.replicate, ite_and', ite_or', ite_int', nI_leI, nI_ltI, nI_eq, nI_add, nI_1, pk_mul, nI_clamp, n_in', nI_pos', nI_pos, n_m1e, n_01, n_10, sT_98, sT_99, sT_100, sT_101, sT_102, sT_103, sT_104, sT_105, sT_106, sT_107, sT_108, sT_109, sT_110, sT_111, sT_112, sT_113, sT_114, sT_115, sT_116, sT_117, sT_118, sT_119, sT_120, sT_121, sT_122, sT_123, sT_124, sT_125, sT_126, sT_127, sT_128, sT_129, sT_130, sT_131, sT_132, sT_133, sT_134, sT_135, sT_136, sT_137, sT_138, sT_139, sT_140, sR_98_1, sR_98_4, sR_98_5, sR_98_6, sR_98_7, sR_98_8, sR_98_9, sR_98_10, sR_98_12, sR_98_13, sR_98_14, sR_98_15, sR_98_16, sR_98_17, sR_98_18, sR_98_19, sR_98_20, sR_98_21, sR_98_22, sR_98_23, sR_98_24, sR_98_25, sR_98_26, sR_98_27, sR_98_28, sR_98_29, sR_98_31, sR_98_34, sR_98_35, sR_98_36, sR_98_42, sR_98_44, sR_98_45, sR_98_47, sR_98_49, sR_98_51, sR_98_56, sR_98_58, sR_98_62, sR_98_65, sR_98_66, sR_98_69, q5, g]
  · rw [if_neg hx] at ex ⊢
    refine ⟨h0, ?_, op_fin r m0 r0.2.2.2.1⟩
    simp (disch := first | assumption | omega) [f_M_order, body_M_order, j_meth, j_out, j_rok, j_pad, lg_sl, s_seq_w, isN_inl, isN_inr, s_if, jb, x_c, x_iloc, x_aloc, x_lloc, x_bin, x_un, o_add, o_sub, o_mul, o_and, o_or, o_xor, o_shl, o_shr, o_ushr, o_max, o_min, o_i2b, o_i2c, o_i2l, o_l2i, x_fld, j_fget, x_idx, j_aget, x_len, j_alen, x_ofb, x_ite, xs_nil, xs_cons, x_callv, x_calls, s_callv, s_calls, j_recv, j_ret, j_retv, b_cmp, b_and, b_or, b_not, b_ofi, b_ite, b_true, s_skip, s_set, j_ty, j_lset, j_kill, s_inc, s_fput, j_fput, s_fop, s_aput, j_aput, j_nar, s_aop, s_ret, s_retv, s_go, s_pop, x_linc, x_finc, Value.category, if_icmp.holds, List.flatMap_cons, List.flatMap_nil, List.length_cons, List.length_append, List.length_nil, List.set_cons_succ, List.set_cons_zero, List.getElem?_cons_succ, List.getElem?_cons_zero, List.replicate, ite_and', ite_or', ite_int', nI_leI, nI_ltI, nI_eq, nI_add, nI_1, pk_mul, nI_clamp, n_in', nI_pos', nI_pos, n_m1e, n_01, n_10, sT_98, sT_99, sT_100, sT_101, sT_102, sT_103, sT_104, sT_105, sT_106, sT_107, sT_108, sT_109, sT_110, sT_111, sT_112, sT_113, sT_114, sT_115, sT_116, sT_117, sT_118, sT_119, sT_120, sT_121, sT_122, sT_123, sT_124, sT_125, sT_126, sT_127, sT_128, sT_129, sT_130, sT_131, sT_132, sT_133, sT_134, sT_135, sT_136, sT_137, sT_138, sT_139, sT_140, sR_98_1, sR_98_4, sR_98_5, sR_98_6, sR_98_7, sR_98_8, sR_98_9, sR_98_10, sR_98_12, sR_98_13, sR_98_14, sR_98_15, sR_98_16, sR_98_17, sR_98_18, sR_98_19, sR_98_20, sR_98_21, sR_98_22, sR_98_23, sR_98_24, sR_98_25, sR_98_26, sR_98_27, sR_98_28, sR_98_29, sR_98_31, sR_98_34, sR_98_35, sR_98_36, sR_98_42, sR_98_44, sR_98_45, sR_98_47, sR_98_49, sR_98_51, sR_98_56, sR_98_58, sR_98_62, sR_98_65, sR_98_66, sR_98_69, nI_0, hh0', ex]
def sWhS (l : List Nat) (T b : Nat) : Nat := nfo (fun k m => m ||| (T &&& 2 ^ (l.getD k 0))) (idxL l b) (2 ^ b)
def sWhy (A : AS) (f S b : Nat) : Nat := if (sTk A f S).testBit b then 0 else match aCh A f with
  | none => 6
  | some C => if sBr A C (sWhS (sOrd A f) (sTk A f S) b) = 0 then 6 else sBr A C (sWhS (sOrd A f) (sTk A f S) b)
def vWhy (A : AS) (f x y : Int32) : Int32 := if j_in f (aNo A) ∧ j_in x (2 ^ aNb A) ∧ j_in y (aNb A) ∧ aOf A y.toNatClampNeg = f.toNatClampNeg ∧ x.toNatClampNeg.testBit y.toNatClampNeg = true then nI (sWhy A f.toNatClampNeg x.toNatClampNeg y.toNatClampNeg) else -1
theorem RMT_of_take {A : AS} {h : jHp} (k : RMK A h) (t : RMT A h) {f S : Nat} (hf : f < aNo A) (hS : S < 2 ^ 31) : ∃ h', f_M_takeOf [.ref 98, .int (nI f), .int (nI S)] h = some (some (.int (nI (sTk A f S))), h') ∧ MX A h h' ∧ ∀ f, f < aNo A → RTk A h' f := by
  obtain ⟨h', e1, e2, e3, e4⟩ := e_M_takeOf k t hf hS
  exact ⟨h', e1, ⟨e2, RMK_fr k e2 Wmk_cM, Or.inr ⟨e3, e4⟩⟩, e4⟩
