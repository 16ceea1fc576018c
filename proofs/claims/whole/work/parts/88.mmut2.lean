theorem sPlc_none {A : AS} {b : Nat} : sPlc A b = none ↔ b ∉ aLl A (aPe A b) := by
  constructor
  · intro h hm
    obtain ⟨i, hi, e⟩ := List.mem_iff_getElem.mp hm
    have := fst1_none h i hi
    rw [beq_eq_false_iff_ne] at this
    exact this (by rw [List.getD_eq_getElem?_getD, List.getElem?_eq_getElem hi]; exact e)
  · intro h
    refine fst1_no fun m hm => ?_
    rw [beq_eq_false_iff_ne]
    intro q
    have := getD_mem' (l := aLl A (aPe A b)) (d := 0) hm
    rw [q] at this
    exact h this
/-- a row of unlike numbers with a property is no longer than how many have it -/
theorem nd_cnt {p : Nat → Bool} {n : Nat} : ∀ {l : List Nat}, l.Nodup → (∀ b ∈ l, b < n ∧ p b = true) → l.length ≤ cntN p n := by
  induction n with
  | zero =>
    intro l _ h
    cases l with
    | nil => exact Nat.zero_le _
    | cons b l => have := (h b (by simp)).1; omega
  | succ n ih =>
    intro l hd h
    have h2 : cntN p (n + 1) = if p n then cntN p n + 1 else cntN p n := rfl
    rw [h2]
    by_cases hm : n ∈ l
    · have hp := (h n hm).2
      rw [if_pos hp]
      have h3 := ih (l := l.erase n) (hd.erase n) (fun b hb => by
        have hb' := List.mem_of_mem_erase hb
        have hne : b ≠ n := by
          intro e
          subst e
          exact (List.Nodup.not_mem_erase hd) hb
        have := h b hb'
        exact ⟨by omega, this.2⟩)
      rw [List.length_erase_of_mem hm] at h3
      omega
    · have h3 := ih (l := l) hd (fun b hb => by
        have hne : b ≠ n := fun e => hm (e ▸ hb)
        have := h b hb
        exact ⟨by omega, this.2⟩)
      split <;> omega
def vList (A : AS) (x : Int32) : Int32 × AS := if j_in x (aNb A) ∧ sPlc A x.toNatClampNeg = none then (nI ((aLl A (aPe A x.toNatClampNeg)).length + 1), aList A (aPe A x.toNatClampNeg) (aLl A (aPe A x.toNatClampNeg) ++ [x.toNatClampNeg])) else (-1, A)
theorem WF_list {A : AS} (w : WF A) {p : Nat} {l : List Nat} (hp : p < aNp A) (hd : l.Nodup) (hm : ∀ b ∈ l, b < aNb A ∧ aPe A b = p) : WF (aList A p l) := by
  obtain ⟨w1, w2, w3, w4, w5, w6, w7⟩ := w
  refine ⟨w1, w2, w3, fun q => ?_, w5, w6, w7⟩
  show (aNp A ≤ q → updN (aLl A) p l q = []) ∧ (updN (aLl A) p l q).length ≤ 5 ∧ (updN (aLl A) p l q).Nodup ∧ ∀ b ∈ updN (aLl A) p l q, b < aNb A ∧ aPe A b = q
  by_cases e : q = p
  · subst e
    rw [updN_eq]
    refine ⟨fun q => by omega, ?_, hd, hm⟩
    have h1 := nd_cnt (p := fun b => aPe A b == q) (n := aNb A) hd (fun b hb => ⟨(hm b hb).1, by simpa using (hm b hb).2⟩)
    have h2 := w3.2.2.2 q
    omega
  · rw [updN_ne _ _ e]
    exact w4 q
theorem ag_list (A : AS) (p : Nat) (l : List Nat) (f : Nat) : TkAg A (aList A p l) f := ⟨Nat.le_refl _, Nat.le_refl _, fun b _ => ⟨rfl, rfl, rfl, rfl, rfl⟩, fun b h1 h2 => absurd h2 (Nat.not_lt.mpr h1), fun p _ => rfl, rfl⟩
theorem o_M_list {A : AS} {tx : List Nat} {rw : List Int32} {h : jHp} (r : RMX A tx rw h) (x : Int32) : ∃ h', f_M_list [.ref 98, .int x] h = some (some (.int (vList A x).1), h') ∧ RMX (vList A x).2 tx rw h' ∧ Fr WM h h' := by
  have hs := r.1.1
  have w := r.1.2.1
  have hn := w.1.1
  have h20 := w.2.2.1.1
  have m0 := op_33 r
  have r0 := RMX_33 r (nI 0)
  have hs0 := r0.1.1
  have eb := e_M_isBond hs0 w r0.1.2.2.2.1 x
  have f0 : Fr W33 h (hSetI h 98 33 (nI 0)) := Fr_set _ ⟨rfl, rfl⟩
  generalize hh0 : hSetI h 98 33 (nI 0) = h0 at *
  unfold vList
  by_cases hx : j_in x (aNb A) = true
  case neg =>
    rw [if_neg (fun q => hx q.1)]
    rw [if_neg hx] at eb
    refine ⟨h0, ?_, op_fin r m0 r0.2.2.2.1⟩
    simp (disch := first | assumption | omega) [f_M_list, body_M_list, j_meth, j_out, j_rok, j_pad, lg_sl, s_seq_w, isN_inl, isN_inr, s_if, jb, x_c, x_iloc, x_aloc, x_lloc, x_bin, x_un, o_add, o_sub, o_mul, o_and, o_or, o_xor, o_shl, o_shr, o_ushr, o_max, o_min, o_i2b, o_i2c, o_i2l, o_l2i, x_fld, j_fget, x_idx, j_aget, x_len, j_alen, x_ofb, x_ite, xs_nil, xs_cons, x_callv, x_calls, s_callv, s_calls, j_recv, j_ret, j_retv, b_cmp, b_and, b_or, b_not, b_ofi, b_ite, b_true, s_skip, s_set, j_ty, j_lset, j_kill, s_inc, s_fput, j_fput, s_fop, s_aput, j_aput, j_nar, s_aop, s_ret, s_retv, s_go, s_pop, x_linc, x_finc, Value.category, if_icmp.holds, List.flatMap_cons, List.flatMap_nil, List.length_cons, List.length_append, List.length_nil, List.set_cons_succ, List.set_cons_zero, List.getElem?_cons_succ, List.getElem?_cons_zero, List.replicate, ite_and', ite_or', ite_int', nI_leI, nI_ltI, nI_eq, nI_add, nI_1, pk_mul, nI_clamp, n_in', nI_pos', nI_pos, n_m1e, n_01, n_10, sT_98, sT_99, sT_100, sT_101, sT_102, sT_103, sT_104, sT_105, sT_106, sT_107, sT_108, sT_109, sT_110, sT_111, sT_112, sT_113, sT_114, sT_115, sT_116, sT_117, sT_118, sT_119, sT_120, sT_121, sT_122, sT_123, sT_124, sT_125, sT_126, sT_127, sT_128, sT_129, sT_130, sT_131, sT_132, sT_133, sT_134, sT_135, sT_136, sT_137, sT_138, sT_139, sT_140, sR_98_1, sR_98_4, sR_98_5, sR_98_6, sR_98_7, sR_98_8, sR_98_9, sR_98_10, sR_98_12, sR_98_13, sR_98_14, sR_98_15, sR_98_16, sR_98_17, sR_98_18, sR_98_19, sR_98_20, sR_98_21, sR_98_22, sR_98_23, sR_98_24, sR_98_25, sR_98_26, sR_98_27, sR_98_28, sR_98_29, sR_98_31, sR_98_34, sR_98_35, sR_98_36, sR_98_42, sR_98_44, sR_98_45, sR_98_47, sR_98_49, sR_98_51, sR_98_56, sR_98_58, sR_98_62, sR_98_65, sR_98_66, sR_98_69, hh0, eb]
  rw [if_pos hx] at eb
  obtain ⟨b, hb, rfl⟩ := j_in_ex hx (by omega)
  rw [nI_clamp (show b < 2 ^ 31 by omega)]
  have ep := e_M_placeOf hs0 w r0.1.2.2.2.1 r0.1.2.2.2.2.1 hb
  by_cases hp : sPlc A b = none
  case neg =>
    rw [if_neg (fun q => hp q.2)]
    have hp' : ¬ oI (sPlc A b) = -1 := fun q => hp ((oI_m1 (fun n hn => by have := sPlc_lt w hn; omega)).mp q)
    refine ⟨h0, ?_, op_fin r m0 r0.2.2.2.1⟩
    simp (disch := first | assumption | omega) [f_M_list, body_M_list, j_meth, j_out, j_rok, j_pad, lg_sl, s_seq_w, isN_inl, isN_inr, s_if, jb, x_c, x_iloc, x_aloc, x_lloc, x_bin, x_un, o_add, o_sub, o_mul, o_and, o_or, o_xor, o_shl, o_shr, o_ushr, o_max, o_min, o_i2b, o_i2c, o_i2l, o_l2i, x_fld, j_fget, x_idx, j_aget, x_len, j_alen, x_ofb, x_ite, xs_nil, xs_cons, x_callv, x_calls, s_callv, s_calls, j_recv, j_ret, j_retv, b_cmp, b_and, b_or, b_not, b_ofi, b_ite, b_true, s_skip, s_set, j_ty, j_lset, j_kill, s_inc, s_fput, j_fput, s_fop, s_aput, j_aput, j_nar, s_aop, s_ret, s_retv, s_go, s_pop, x_linc, x_finc, Value.category, if_icmp.holds, List.flatMap_cons, List.flatMap_nil, List.length_cons, List.length_append, List.length_nil, List.set_cons_succ, List.set_cons_zero, List.getElem?_cons_succ, List.getElem?_cons_zero, List.replicate, ite_and', ite_or', ite_int', nI_leI, nI_ltI, nI_eq, nI_add, nI_1, pk_mul, nI_clamp, n_in', nI_pos', nI_pos, n_m1e, n_01, n_10, sT_98, sT_99, sT_100, sT_101, sT_102, sT_103, sT_104, sT_105, sT_106, sT_107, sT_108, sT_109, sT_110, sT_111, sT_112, sT_113, sT_114, sT_115, sT_116, sT_117, sT_118, sT_119, sT_120, sT_121, sT_122, sT_123, sT_124, sT_125, sT_126, sT_127, sT_128, sT_129, sT_130, sT_131, sT_132, sT_133, sT_134, sT_135, sT_136, sT_137, sT_138, sT_139, sT_140, sR_98_1, sR_98_4, sR_98_5, sR_98_6, sR_98_7, sR_98_8, sR_98_9, sR_98_10, sR_98_12, sR_98_13, sR_98_14, sR_98_15, sR_98_16, sR_98_17, sR_98_18, sR_98_19, sR_98_20, sR_98_21, sR_98_22, sR_98_23, sR_98_24, sR_98_25, sR_98_26, sR_98_27, sR_98_28, sR_98_29, sR_98_31, sR_98_34, sR_98_35, sR_98_36, sR_98_42, sR_98_44, sR_98_45, sR_98_47, sR_98_49, sR_98_51, sR_98_56, sR_98_58, sR_98_62, sR_98_65, sR_98_66, sR_98_69, hh0, eb, ep, hp']
  rw [if_pos ⟨hx, hp⟩]
  rw [hp, oI_n] at ep
  have hpe := (w.2.2.1.2.1 b hb).1
  obtain ⟨d1, -⟩ := r0.1.2.2.2.1.2.2 b hb
  obtain ⟨l1, l2⟩ := r0.1.2.2.2.2.1 (aPe A b) (by omega)
  have hnm := sPlc_none.mp hp
  have hl := w.2.2.2.1 (aPe A b)
  have hd' : (aLl A (aPe A b) ++ [b]).Nodup := by
    rw [List.nodup_append]
    refine ⟨hl.2.2.1, by simp, fun a ha c hc => ?_⟩
    simp only [List.mem_singleton] at hc
    subst hc
    exact fun e => hnm (e ▸ ha)
  have hm' : ∀ c ∈ aLl A (aPe A b) ++ [b], c < aNb A ∧ aPe A c = aPe A b := fun c hc => by
    rcases List.mem_append.mp hc with q | q
    · exact hl.2.2.2 c q
    · simp only [List.mem_singleton] at q; subst q; exact ⟨hb, rfl⟩
  have w' := WF_list w hpe hd' hm'
  have hlen : (aLl A (aPe A b)).length + 1 ≤ 5 := by
    have := (w'.2.2.2.1 (aPe A b)).2.1
    have e : aLl (aList A (aPe A b) (aLl A (aPe A b) ++ [b])) (aPe A b) = aLl A (aPe A b) ++ [b] := updN_eq _ _ _
    rw [e, List.length_append, List.length_singleton] at this
    exact this
  generalize hpp : aPe A b = p at *
  generalize hll : aLl A p = l at *
  have f1 : Fr (fun a k => (a = 105 ∧ k = 5 * p + l.length) ∨ (a = 106 ∧ k = p)) h0 (hSetI (hSetI h0 105 (5 * p + l.length) (nI b)) 106 p (nI (l.length + 1))) := Fr_trans (Fr_set _ (Or.inl ⟨rfl, rfl⟩)) (Fr_set _ (Or.inr ⟨rfl, rfl⟩))
  have c1 : hI (hSetI (hSetI h0 105 (5 * p + l.length) (nI b)) 106 p (nI (l.length + 1))) 106 p = nI (l.length + 1) := by rw [hI_setI, if_pos ⟨rfl, rfl⟩]
  have c2 : hI (hSetI (hSetI h0 105 (5 * p + l.length) (nI b)) 106 p (nI (l.length + 1))) 105 (5 * p + l.length) = nI b := by rw [hI_setI, if_neg (by omega), hI_setI, if_pos ⟨rfl, rfl⟩]
  have c3 : hI (hSetI h0 105 (5 * p + l.length) (nI b)) 106 p = nI l.length := by rw [hI_setI, if_neg (by omega)]; exact l1
  have hs1 : Shape (hSetI h0 105 (5 * p + l.length) (nI b)) := Fr_shape (W := fun a k => a = 105) hs0 (Fr_set _ rfl)
  have hs2 := Fr_shape hs0 f1
  refine ⟨hSetI (hSetI h0 105 (5 * p + l.length) (nI b)) 106 p (nI (l.length + 1)), ?_, ?_⟩
  · generalize hh1 : hSetI h0 105 (5 * p + l.length) (nI b) = h1 at *
    generalize hh2 : hSetI h1 106 p (nI (l.length + 1)) = h2 at *
    simp (disch := first | assumption | omega) [f_M_list, body_M_list, j_meth, j_out, j_rok, j_pad, lg_sl, s_seq_w, isN_inl, isN_inr, s_if, jb, x_c, x_iloc, x_aloc, x_lloc, x_bin, x_un, o_add, o_sub, o_mul, o_and, o_or, o_xor, o_shl, o_shr, o_ushr, o_max, o_min, o_i2b, o_i2c, o_i2l, o_l2i, x_fld, j_fget, x_idx, j_aget, x_len, j_alen, x_ofb, x_ite, xs_nil, xs_cons, x_callv, x_calls, s_callv, s_calls, j_recv, j_ret, j_retv, b_cmp, b_and, b_or, b_not, b_ofi, b_ite, b_true, s_skip, s_set, j_ty, j_lset, j_kill, s_inc, s_fput, j_fput, s_fop, s_aput, j_aput, j_nar, s_aop, s_ret, s_retv, s_go, s_pop, x_linc, x_finc, Value.category, if_icmp.holds, List.flatMap_cons, List.flatMap_nil, List.length_cons, List.length_append, List.length_nil, List.set_cons_succ, List.set_cons_zero, List.getElem?_cons_succ, List.getElem?_cons_zero, List.replicate, ite_and', ite_or', ite_int', nI_leI, nI_ltI, nI_eq, nI_add, nI_1, pk_mul, nI_clamp, n_in', nI_pos', nI_pos, n_m1e, n_01, n_10, sT_98, sT_99, sT_100, sT_101, sT_102, sT_103, sT_104, sT_105, sT_106, sT_107, sT_108, sT_109, sT_110, sT_111, sT_112, sT_113, sT_114, sT_115, sT_116, sT_117, sT_118, sT_119, sT_120, sT_121, sT_122, sT_123, sT_124, sT_125, sT_126, sT_127, sT_128, sT_129, sT_130, sT_131, sT_132, sT_133, sT_134, sT_135, sT_136, sT_137, sT_138, sT_139, sT_140, sR_98_1, sR_98_4, sR_98_5, sR_98_6, sR_98_7, sR_98_8, sR_98_9, sR_98_10, sR_98_12, sR_98_13, sR_98_14, sR_98_15, sR_98_16, sR_98_17, sR_98_18, sR_98_19, sR_98_20, sR_98_21, sR_98_22, sR_98_23, sR_98_24, sR_98_25, sR_98_26, sR_98_27, sR_98_28, sR_98_29, sR_98_31, sR_98_34, sR_98_35, sR_98_36, sR_98_42, sR_98_44, sR_98_45, sR_98_47, sR_98_49, sR_98_51, sR_98_56, sR_98_58, sR_98_62, sR_98_65, sR_98_66, sR_98_69, hh0, eb, ep, d1, l1, hh1, c3, hh2, c1]
  · generalize hSetI (hSetI h0 105 (5 * p + l.length) (nI b)) 106 p (nI (l.length + 1)) = h2 at *
    obtain ⟨-, -, rp, rb, rl, rc, rch⟩ := r0.1
    have f2 : Fr (fun a k => W33 a k ∨ (a = 105 ∧ k = 5 * p + l.length) ∨ (a = 106 ∧ k = p)) h h2 := Fr_trans (Fr_mono f0 fun a k q => Or.inl q) (Fr_mono f1 fun a k q => Or.inr q)
    refine RMX_new r f2 (by unfold cT W33; intro a k; omega) ⟨hs2, w', RMp_c rp (fun a k q => Fr_I f1 (by omega)), RMb_c rb (fun a k q => Fr_I f1 (by omega)), fun q hq => ?_, RMc_c rc (fun a k q => Fr_I f1 (by omega)), RMch_c rch (fun a k q1 q2 => Fr_I f1 (by omega))⟩ (RMT_ag (A := A) w (RMT_fr r0.2.1 f1 (by intro a k q; omega)) rfl fun f hf => ag_list A p _ f)
    show hI h2 106 q = nI (updN (aLl A) p (l ++ [b]) q).length ∧ ∀ k, k < (updN (aLl A) p (l ++ [b]) q).length → hI h2 105 (5 * q + k) = nI ((updN (aLl A) p (l ++ [b]) q).getD k 0)
    by_cases e : q = p
    · subst e
      rw [updN_eq, List.length_append, List.length_singleton]
      refine ⟨c1, fun k hk => ?_⟩
      by_cases e2 : k = l.length
      · subst e2; rw [c2]; simp
      · rw [Fr_I f1 (by omega), l2 k (by omega)]
        simp only [List.getD_eq_getElem?_getD]
        rw [List.getElem?_append_left (by omega)]
    · rw [updN_ne _ _ e]
      have hq5 := (w.2.2.2.1 q).2.1
      exact ⟨by rw [Fr_I f1 (by omega)]; exact (rl q hq).1, fun k hk => by rw [Fr_I f1 (by omega)]; exact (rl q hq).2 k hk⟩
def vClear (A : AS) (x : Int32) : Int32 × AS := if j_in x (aNp A) then (nI (aLl A x.toNatClampNeg).length, aList A x.toNatClampNeg []) else (-1, A)
theorem o_M_clear {A : AS} {tx : List Nat} {rw : List Int32} {h : jHp} (r : RMX A tx rw h) (x : Int32) : ∃ h', f_M_clear [.ref 98, .int x] h = some (some (.int (vClear A x).1), h') ∧ RMX (vClear A x).2 tx rw h' ∧ Fr WM h h' := by
  have hs := r.1.1
  have w := r.1.2.1
  have hn := w.1.1
  have m0 := op_33 r
  have r0 := RMX_33 r (nI 0)
  have hs0 := r0.1.1
  have eb := e_M_isPerson hs0 w r0.1.2.2.1 x
  have f0 : Fr W33 h (hSetI h 98 33 (nI 0)) := Fr_set _ ⟨rfl, rfl⟩
  generalize hh0 : hSetI h 98 33 (nI 0) = h0 at *
  unfold vClear
  by_cases hx : j_in x (aNp A) = true
  case neg =>
    rw [if_neg hx] at eb ⊢
    refine ⟨h0, ?_, op_fin r m0 r0.2.2.2.1⟩
    simp (disch := first | assumption | omega) [f_M_clear, body_M_clear, j_meth, j_out, j_rok, j_pad, lg_sl, s_seq_w, isN_inl, isN_inr, s_if, jb, x_c, x_iloc, x_aloc, x_lloc, x_bin, x_un, o_add, o_sub, o_mul, o_and, o_or, o_xor, o_shl, o_shr, o_ushr, o_max, o_min, o_i2b, o_i2c, o_i2l, o_l2i, x_fld, j_fget, x_idx, j_aget, x_len, j_alen, x_ofb, x_ite, xs_nil, xs_cons, x_callv, x_calls, s_callv, s_calls, j_recv, j_ret, j_retv, b_cmp, b_and, b_or, b_not, b_ofi, b_ite, b_true, s_skip, s_set, j_ty, j_lset, j_kill, s_inc, s_fput, j_fput, s_fop, s_aput, j_aput, j_nar, s_aop, s_ret, s_retv, s_go, s_pop, x_linc, x_finc, Value.category, if_icmp.holds, List.flatMap_cons, List.flatMap_nil, List.length_cons, List.length_append, List.length_nil, List.set_cons_succ, List.set_cons_zero, List.getElem?_cons_succ, List.getElem?_cons_zero, List.replicate, ite_and', ite_or', ite_int', nI_leI, nI_ltI, nI_eq, nI_add, nI_1, pk_mul, nI_clamp, n_in', nI_pos', nI_pos, n_m1e, n_01, n_10, sT_98, sT_99, sT_100, sT_101, sT_102, sT_103, sT_104, sT_105, sT_106, sT_107, sT_108, sT_109, sT_110, sT_111, sT_112, sT_113, sT_114, sT_115, sT_116, sT_117, sT_118, sT_119, sT_120, sT_121, sT_122, sT_123, sT_124, sT_125, sT_126, sT_127, sT_128, sT_129, sT_130, sT_131, sT_132, sT_133, sT_134, sT_135, sT_136, sT_137, sT_138, sT_139, sT_140, sR_98_1, sR_98_4, sR_98_5, sR_98_6, sR_98_7, sR_98_8, sR_98_9, sR_98_10, sR_98_12, sR_98_13, sR_98_14, sR_98_15, sR_98_16, sR_98_17, sR_98_18, sR_98_19, sR_98_20, sR_98_21, sR_98_22, sR_98_23, sR_98_24, sR_98_25, sR_98_26, sR_98_27, sR_98_28, sR_98_29, sR_98_31, sR_98_34, sR_98_35, sR_98_36, sR_98_42, sR_98_44, sR_98_45, sR_98_47, sR_98_49, sR_98_51, sR_98_56, sR_98_58, sR_98_62, sR_98_65, sR_98_66, sR_98_69, hh0, eb]
  rw [if_pos hx] at eb ⊢
  obtain ⟨p, hp, rfl⟩ := j_in_ex hx (by omega)
  rw [nI_clamp (show p < 2 ^ 31 by omega)]
  obtain ⟨l1, l2⟩ := r0.1.2.2.2.2.1 p (by omega)
  have f1 : Fr (fun a k => a = 106 ∧ k = p) h0 (hSetI h0 106 p (nI 0)) := Fr_set _ ⟨rfl, rfl⟩
  have c1 : hI (hSetI h0 106 p (nI 0)) 106 p = nI 0 := by rw [hI_setI, if_pos ⟨rfl, rfl⟩]
  have hs1 := Fr_shape hs0 f1
  refine ⟨hSetI h0 106 p (nI 0), ?_, ?_⟩
  · generalize hh1 : hSetI h0 106 p (nI 0) = h1 at *
    simp (disch := first | assumption | omega) [f_M_clear, body_M_clear, j_meth, j_out, j_rok, j_pad, lg_sl, s_seq_w, isN_inl, isN_inr, s_if, jb, x_c, x_iloc, x_aloc, x_lloc, x_bin, x_un, o_add, o_sub, o_mul, o_and, o_or, o_xor, o_shl, o_shr, o_ushr, o_max, o_min, o_i2b, o_i2c, o_i2l, o_l2i, x_fld, j_fget, x_idx, j_aget, x_len, j_alen, x_ofb, x_ite, xs_nil, xs_cons, x_callv, x_calls, s_callv, s_calls, j_recv, j_ret, j_retv, b_cmp, b_and, b_or, b_not, b_ofi, b_ite, b_true, s_skip, s_set, j_ty, j_lset, j_kill, s_inc, s_fput, j_fput, s_fop, s_aput, j_aput, j_nar, s_aop, s_ret, s_retv, s_go, s_pop, x_linc, x_finc, Value.category, if_icmp.holds, List.flatMap_cons, List.flatMap_nil, List.length_cons, List.length_append, List.length_nil, List.set_cons_succ, List.set_cons_zero, List.getElem?_cons_succ, List.getElem?_cons_zero, List.replicate, ite_and', ite_or', ite_int', nI_leI, nI_ltI, nI_eq, nI_add, nI_1, pk_mul, nI_clamp, n_in', nI_pos', nI_pos, n_m1e, n_01, n_10, sT_98, sT_99, sT_100, sT_101, sT_102, sT_103, sT_104, sT_105, sT_106, sT_107, sT_108, sT_109, sT_110, sT_111, sT_112, sT_113, sT_114, sT_115, sT_116, sT_117, sT_118, sT_119, sT_120, sT_121, sT_122, sT_123, sT_124, sT_125, sT_126, sT_127, sT_128, sT_129, sT_130, sT_131, sT_132, sT_133, sT_134, sT_135, sT_136, sT_137, sT_138, sT_139, sT_140, sR_98_1, sR_98_4, sR_98_5, sR_98_6, sR_98_7, sR_98_8, sR_98_9, sR_98_10, sR_98_12, sR_98_13, sR_98_14, sR_98_15, sR_98_16, sR_98_17, sR_98_18, sR_98_19, sR_98_20, sR_98_21, sR_98_22, sR_98_23, sR_98_24, sR_98_25, sR_98_26, sR_98_27, sR_98_28, sR_98_29, sR_98_31, sR_98_34, sR_98_35, sR_98_36, sR_98_42, sR_98_44, sR_98_45, sR_98_47, sR_98_49, sR_98_51, sR_98_56, sR_98_58, sR_98_62, sR_98_65, sR_98_66, sR_98_69, hh0, eb, l1, hh1]
  · generalize hSetI h0 106 p (nI 0) = h1 at *
    obtain ⟨-, -, rp, rb, rl, rc, rch⟩ := r0.1
    have f2 : Fr (fun a k => W33 a k ∨ (a = 106 ∧ k = p)) h h1 := Fr_trans (Fr_mono f0 fun a k q => Or.inl q) (Fr_mono f1 fun a k q => Or.inr q)
    refine RMX_new r f2 (by unfold cT W33; intro a k; omega) ⟨hs1, WF_list w hp (by simp) (fun b hb => by cases hb), RMp_c rp (fun a k q => Fr_I f1 (by omega)), RMb_c rb (fun a k q => Fr_I f1 (by omega)), fun q hq => ?_, RMc_c rc (fun a k q => Fr_I f1 (by omega)), RMch_c rch (fun a k q1 q2 => Fr_I f1 (by omega))⟩ (RMT_ag (A := A) w (RMT_fr r0.2.1 f1 (by intro a k q; omega)) rfl fun f hf => ag_list A p _ f)
    show hI h1 106 q = nI (updN (aLl A) p [] q).length ∧ ∀ k, k < (updN (aLl A) p [] q).length → hI h1 105 (5 * q + k) = nI ((updN (aLl A) p [] q).getD k 0)
    by_cases e : q = p
    · subst e
      rw [updN_eq]
      exact ⟨c1, fun k hk => by simp at hk⟩
    · rw [updN_ne _ _ e]
      exact ⟨by rw [Fr_I f1 (by omega)]; exact (rl q hq).1, fun k hk => by rw [Fr_I f1 (by omega)]; exact (rl q hq).2 k hk⟩
