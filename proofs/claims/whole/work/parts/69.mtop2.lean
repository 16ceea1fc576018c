/-! the reference's calls: judge, offer, all -/
theorem MW_WM {W : Nat → Nat → Prop} {A : AS} {h h1 : jHp} (m : MW W A h h1) (hW : ∀ a k, W a k → 98 ≤ a ∧ a ≤ 140) : Fr WM h h1 := Fr_mono m.1 hW
/-- the frame of a call that tells the ROW and may use all memory of its own -/
def Wop (a k : Nat) : Prop := (126 ≤ a ∧ a ≤ 140) ∨ a = 125 ∨ (a = 98 ∧ (k = 32 ∨ k = 33 ∨ k = 37 ∨ (52 ≤ k ∧ k ≤ 55) ∨ k = 59 ∨ (62 ≤ k ∧ k ≤ 70)))
theorem Wop_WM : ∀ a k, Wop a k → 98 ≤ a ∧ a ≤ 140 := by unfold Wop; intro a k; omega
theorem Wop_cM : ∀ a k, Wop a k → ¬ cM a k := by unfold Wop cM; intro a k; omega
theorem Wop_cT : ∀ a k, Wop a k → ¬ cT a k ∨ Wrw a k := by unfold Wop cT Wrw; intro a k; omega
theorem Wjd_op : ∀ a k, Wjd a k → Wop a k := by unfold Wjd Wmk Wop; intro a k; omega
theorem Wgt_op : ∀ a k, Wgt a k → Wop a k := by unfold Wgt Wjd Wmk Wop; intro a k; omega
theorem Wof_op : ∀ a k, Wof a k → Wop a k := by unfold Wof Wmk Wop; intro a k; omega
theorem W33_op : ∀ a k, W33 a k → Wop a k := by unfold W33 Wop; intro a k; omega
theorem Wrw_op : ∀ a k, Wrw a k → Wop a k := by unfold Wrw Wop; intro a k; omega
theorem op_fin {A : AS} {tx : List Nat} {rw rw' : List Int32} {h h1 : jHp} (r : RMX A tx rw h) (m : MW Wop A h h1) (r' : RRw rw' h1) : RMX A tx rw' h1 ∧ Fr WM h h1 := ⟨RMX_rw r m Wop_cT r', MW_WM m Wop_WM⟩
theorem op_33 {A : AS} {tx : List Nat} {rw : List Int32} {h : jHp} (r : RMX A tx rw h) : MW Wop A h (hSetI h 98 33 (nI 0)) := MW_mono (MW_33 r.1 r.2.1 _) W33_op
theorem MW_rw0 {A : AS} {h h1 : jHp} (a : MW Wop A h h1) : MW Wop A h (hSetI h1 98 32 (nI 0)) := MW_rw a (Fr_set _ (Or.inr ⟨rfl, rfl⟩)) Wrw_op
theorem MW_tell {A : AS} {h h1 h2 : jHp} (a : MW Wop A h h1) (f : Fr Wrw h1 h2) : MW Wop A h h2 := MW_rw a f Wrw_op
theorem RRw_mw {W : Nat → Nat → Prop} {A : AS} {rw : List Int32} {h h1 : jHp} (r : RRw rw h) (m : MW W A h h1) (hW : ∀ a k, W a k → ¬ Wrw a k) : RRw rw h1 := RRw_eq r (Fr_I m.1 fun z => hW _ _ z (Or.inr ⟨rfl, rfl⟩)) (fun k => Fr_I m.1 fun z => hW _ _ z (Or.inl rfl))
theorem Wjd_rw : ∀ a k, Wjd a k → ¬ Wrw a k := by unfold Wjd Wmk Wrw; intro a k; omega
theorem Wgt_rw : ∀ a k, Wgt a k → ¬ Wrw a k := by unfold Wgt Wjd Wmk Wrw; intro a k; omega
theorem Wof_rw : ∀ a k, Wof a k → ¬ Wrw a k := by unfold Wof Wmk Wrw; intro a k; omega
theorem e_tell2 {A : AS} {h0 h : jHp} (m : MW Wop A h0 h) (x y : Int32) : ∃ h1 h2, f_M_tell [.ref 98, .int x] (hSetI h 98 32 (nI 0)) = some (none, h1) ∧ f_M_tell [.ref 98, .int y] h1 = some (none, h2) ∧ MW Wop A h0 h2 ∧ RRw [x, y] h2 ∧ Shape h1 ∧ Shape (hSetI h 98 32 (nI 0)) ∧ Fr Wrw (hSetI h 98 32 (nI 0)) h1 := by
  have m0 := MW_rw0 m
  obtain ⟨h1, e1, r1, f1⟩ := e_M_tell m0.2.1.1 (RRw_0 (h := h)) (by decide) x
  have m1 := MW_tell m0 f1
  obtain ⟨h2, e2, r2, f2⟩ := e_M_tell m1.2.1.1 r1 (by simp) y
  exact ⟨h1, h2, e1, e2, MW_tell m1 f2, r2, m1.2.1.1, m0.2.1.1, f1⟩
def vJudge (A : AS) (rw : List Int32) (x : Int32) : Int32 × List Int32 := if j_in x (2 ^ aNb A) then (nI (sJdg A x.toNatClampNeg).1, match (sJdg A x.toNatClampNeg).2 with
  | some q => [nI q.1, nI q.2]
  | none => rw) else (-1, rw)
theorem sJdg_2 (A : AS) (S : Nat) : (sJdg A S).1 < 3 ↔ (sJdg A S).2 = none := by
  unfold sJdg
  split
  · simp
  · split
    · simp
    · split
      · simp
      · split <;> simp
theorem p20 {A : AS} (w : WF A) : 2 ^ aNb A ≤ 2 ^ 20 := Nat.pow_le_pow_right (by decide) w.2.2.1.1
theorem o_M_judge {A : AS} {tx : List Nat} {rw : List Int32} {h : jHp} (r : RMX A tx rw h) (x : Int32) : ∃ h', f_M_judge [.ref 98, .int x] h = some (some (.int (vJudge A rw x).1), h') ∧ RMX A tx (vJudge A rw x).2 h' ∧ Fr WM h h' := by
  have hs := r.1.1
  have w := r.1.2.1
  have hp := p20 w
  have r0 := RMX_33 r (nI 0)
  have m0 := op_33 r
  have hs0 := r0.1.1
  have ei := e_M_isSet hs0 w r0.1.2.2.2.1 x
  generalize hh0 : hSetI h 98 33 (nI 0) = h0 at *
  have hh0' : hSetI h 98 33 0 = h0 := by rw [← hh0, nI_0]
  unfold vJudge
  by_cases hx : j_in x (2 ^ aNb A) = true
  · rw [if_pos hx] at ei ⊢
    obtain ⟨S, hS, rfl⟩ := j_in_ex hx (by omega)
    rw [nI_clamp (by omega)]
    obtain ⟨h1, e1, m1, g1⟩ := e_M_judgeOf r0.1 r0.2.1 (S := S) (by omega)
    have m1' := MW_trans m0 (MW_mono m1 Wjd_op)
    have hs1 := m1.2.1.1
    have rw1 := RRw_mw r0.2.2.2.1 m1 Wjd_rw
    have hl := sJdg_lt A S
    have h3 := sJdg_2 A S
    cases hq : (sJdg A S).2 with
    | none =>
      have hlt := h3.mpr hq
      refine ⟨h1, ?_, op_fin r m1' rw1⟩
      simp (disch := first | assumption | omega) [f_M_judge, body_M_judge, j_meth, j_out, j_rok, j_pad, lg_sl, s_seq_w, isN_inl, isN_inr, s_if, jb, x_c, x_iloc, x_aloc, x_lloc, x_bin, x_un, o_add, o_sub, o_mul, o_and, o_or, o_xor, o_shl, o_shr, o_ushr, o_max, o_min, o_i2b, o_i2c, o_i2l, o_l2i, x_fld, j_fget, x_idx, j_aget, x_len, j_alen, x_ofb, x_ite, xs_nil, xs_cons, x_callv, x_calls, s_callv, s_calls, j_recv, j_ret, j_retv, b_cmp, b_and, b_or, b_not, b_ofi, b_ite, b_true, s_skip, s_set, j_ty, j_lset, j_kill, s_inc, s_fput, j_fput, s_fop, s_aput, j_aput, j_nar, s_aop, s_ret, s_retv, s_go, s_pop, x_linc, x_finc, Value.category, if_icmp.holds, List.flatMap_cons, List.flatMap_nil, List.length_cons, List.length_append, List.length_nil, List.set_cons_succ, List.set_cons_zero, List.getElem?_cons_succ, List.getElem?_cons_zero, List.replicate, ite_and', ite_or', ite_int', nI_leI, nI_ltI, nI_eq, nI_add, nI_1, pk_mul, nI_clamp, n_in', nI_pos', nI_pos, n_m1e, n_01, n_10, sT_98, sT_99, sT_100, sT_101, sT_102, sT_103, sT_104, sT_105, sT_106, sT_107, sT_108, sT_109, sT_110, sT_111, sT_112, sT_113, sT_114, sT_115, sT_116, sT_117, sT_118, sT_119, sT_120, sT_121, sT_122, sT_123, sT_124, sT_125, sT_126, sT_127, sT_128, sT_129, sT_130, sT_131, sT_132, sT_133, sT_134, sT_135, sT_136, sT_137, sT_138, sT_139, sT_140, sR_98_1, sR_98_4, sR_98_5, sR_98_6, sR_98_7, sR_98_8, sR_98_9, sR_98_10, sR_98_12, sR_98_13, sR_98_14, sR_98_15, sR_98_16, sR_98_17, sR_98_18, sR_98_19, sR_98_20, sR_98_21, sR_98_22, sR_98_23, sR_98_24, sR_98_25, sR_98_26, sR_98_27, sR_98_28, sR_98_29, sR_98_31, sR_98_34, sR_98_35, sR_98_36, sR_98_42, sR_98_44, sR_98_45, sR_98_47, sR_98_49, sR_98_51, sR_98_56, sR_98_58, sR_98_62, sR_98_65, sR_98_66, sR_98_69, nI_0, hh0', ei, e1, hlt]
    | some q =>
      have hlt : ¬ (sJdg A S).1 < 3 := fun z => by rw [h3.mp z] at hq; cases hq
      obtain ⟨g2, g3⟩ := g1 q.1 q.2 hq
      obtain ⟨h2, h4, e2, e4, m4, r4, hs2, hs3, f2⟩ := e_tell2 m1' (nI q.1) (nI q.2)
      refine ⟨h4, ?_, op_fin r m4 r4⟩
      have g2' : hI (hSetI h1 98 32 (nI 0)) 98 52 = nI q.1 := by rw [hI_setI, if_neg (by omega)]; exact g2
      have g3' : hI h2 98 53 = nI q.2 := by rw [Fr_I f2 (by simp [Wrw]), hI_setI, if_neg (by omega)]; exact g3
      have hh1 : hSetI h1 98 32 0 = hSetI h1 98 32 (nI 0) := by rw [nI_0]
      generalize hSetI h1 98 32 (nI 0) = h1' at *
      simp (disch := first | assumption | omega) [f_M_judge, body_M_judge, j_meth, j_out, j_rok, j_pad, lg_sl, s_seq_w, isN_inl, isN_inr, s_if, jb, x_c, x_iloc, x_aloc, x_lloc, x_bin, x_un, o_add, o_sub, o_mul, o_and, o_or, o_xor, o_shl, o_shr, o_ushr, o_max, o_min, o_i2b, o_i2c, o_i2l, o_l2i, x_fld, j_fget, x_idx, j_aget, x_len, j_alen, x_ofb, x_ite, xs_nil, xs_cons, x_callv, x_calls, s_callv, s_calls, j_recv, j_ret, j_retv, b_cmp, b_and, b_or, b_not, b_ofi, b_ite, b_true, s_skip, s_set, j_ty, j_lset, j_kill, s_inc, s_fput, j_fput, s_fop, s_aput, j_aput, j_nar, s_aop, s_ret, s_retv, s_go, s_pop, x_linc, x_finc, Value.category, if_icmp.holds, List.flatMap_cons, List.flatMap_nil, List.length_cons, List.length_append, List.length_nil, List.set_cons_succ, List.set_cons_zero, List.getElem?_cons_succ, List.getElem?_cons_zero, List.replicate, ite_and', ite_or', ite_int', nI_leI, nI_ltI, nI_eq, nI_add, nI_1, pk_mul, nI_clamp, n_in', nI_pos', nI_pos, n_m1e, n_01, n_10, sT_98, sT_99, sT_100, sT_101, sT_102, sT_103, sT_104, sT_105, sT_106, sT_107, sT_108, sT_109, sT_110, sT_111, sT_112, sT_113, sT_114, sT_115, sT_116, sT_117, sT_118, sT_119, sT_120, sT_121, sT_122, sT_123, sT_124, sT_125, sT_126, sT_127, sT_128, sT_129, sT_130, sT_131, sT_132, sT_133, sT_134, sT_135, sT_136, sT_137, sT_138, sT_139, sT_140, sR_98_1, sR_98_4, sR_98_5, sR_98_6, sR_98_7, sR_98_8, sR_98_9, sR_98_10, sR_98_12, sR_98_13, sR_98_14, sR_98_15, sR_98_16, sR_98_17, sR_98_18, sR_98_19, sR_98_20, sR_98_21, sR_98_22, sR_98_23, sR_98_24, sR_98_25, sR_98_26, sR_98_27, sR_98_28, sR_98_29, sR_98_31, sR_98_34, sR_98_35, sR_98_36, sR_98_42, sR_98_44, sR_98_45, sR_98_47, sR_98_49, sR_98_51, sR_98_56, sR_98_58, sR_98_62, sR_98_65, sR_98_66, sR_98_69, nI_0, hh0', ei, e1, hlt, hh1, g2', e2, g3', e4]
  · rw [if_neg hx] at ei ⊢
    refine ⟨h0, ?_, op_fin r m0 r0.2.2.2.1⟩
    simp (disch := first | assumption | omega) [f_M_judge, body_M_judge, j_meth, j_out, j_rok, j_pad, lg_sl, s_seq_w, isN_inl, isN_inr, s_if, jb, x_c, x_iloc, x_aloc, x_lloc, x_bin, x_un, o_add, o_sub, o_mul, o_and, o_or, o_xor, o_shl, o_shr, o_ushr, o_max, o_min, o_i2b, o_i2c, o_i2l, o_l2i, x_fld, j_fget, x_idx, j_aget, x_len, j_alen, x_ofb, x_ite, xs_nil, xs_cons, x_callv, x_calls, s_callv, s_calls, j_recv, j_ret, j_retv, b_cmp, b_and, b_or, b_not, b_ofi, b_ite, b_true, s_skip, s_set, j_ty, j_lset, j_kill, s_inc, s_fput, j_fput, s_fop, s_aput, j_aput, j_nar, s_aop, s_ret, s_retv, s_go, s_pop, x_linc, x_finc, Value.category, if_icmp.holds, List.flatMap_cons, List.flatMap_nil, List.length_cons, List.length_append, List.length_nil, List.set_cons_succ, List.set_cons_zero, List.getElem?_cons_succ, List.getElem?_cons_zero, List.replicate, ite_and', ite_or', ite_int', nI_leI, nI_ltI, nI_eq, nI_add, nI_1, pk_mul, nI_clamp, n_in', nI_pos', nI_pos, n_m1e, n_01, n_10, sT_98, sT_99, sT_100, sT_101, sT_102, sT_103, sT_104, sT_105, sT_106, sT_107, sT_108, sT_109, sT_110, sT_111, sT_112, sT_113, sT_114, sT_115, sT_116, sT_117, sT_118, sT_119, sT_120, sT_121, sT_122, sT_123, sT_124, sT_125, sT_126, sT_127, sT_128, sT_129, sT_130, sT_131, sT_132, sT_133, sT_134, sT_135, sT_136, sT_137, sT_138, sT_139, sT_140, sR_98_1, sR_98_4, sR_98_5, sR_98_6, sR_98_7, sR_98_8, sR_98_9, sR_98_10, sR_98_12, sR_98_13, sR_98_14, sR_98_15, sR_98_16, sR_98_17, sR_98_18, sR_98_19, sR_98_20, sR_98_21, sR_98_22, sR_98_23, sR_98_24, sR_98_25, sR_98_26, sR_98_27, sR_98_28, sR_98_29, sR_98_31, sR_98_34, sR_98_35, sR_98_36, sR_98_42, sR_98_44, sR_98_45, sR_98_47, sR_98_49, sR_98_51, sR_98_56, sR_98_58, sR_98_62, sR_98_65, sR_98_66, sR_98_69, nI_0, hh0', ei]
def vOffer (A : AS) (rw : List Int32) : Int32 × List Int32 := match sOuV A none none none with
  | some v => (nI v, [nI (sOut A none none none).2.2.1, nI (sOut A none none none).2.2.2.1])
  | none => (-3, rw)
theorem LOk0 (A : AS) : LOk A none none none := ⟨fun q h => (by cases h), fun q h => (by cases h), fun q h => by cases h⟩
theorem sOuV_lt {A : AS} {li : Option (Nat × List Nat)} {si mi : Option Nat} {v : Nat} (hl : (sOut A li si mi).2.1 < 2 ^ 20) (h : sOuV A li si mi = some v) : v < 2 ^ 20 := by
  unfold sOuV at h
  split at h
  · cases h; exact hl
  · cases h
theorem m3_neg : (-3 : Int32) < 0 := by decide
theorem o_M_offer {A : AS} {tx : List Nat} {rw : List Int32} {h : jHp} (r : RMX A tx rw h) : ∃ h', f_M_offer [.ref 98] h = some (some (.int (vOffer A rw).1), h') ∧ RMX A tx (vOffer A rw).2 h' ∧ Fr WM h h' := by
  have hs := r.1.1
  have w := r.1.2.1
  have r0 := RMX_33 r (nI 0)
  have m0 := op_33 r
  have hs0 := r0.1.1
  generalize hh0 : hSetI h 98 33 (nI 0) = h0 at *
  have hh0' : hSetI h 98 33 0 = h0 := by rw [← hh0, nI_0]
  obtain ⟨h1, e1, m1, g1, g2, hlt⟩ := e_M_outcome r0.1 r0.2.1 (LOk0 A) r0.2.2.2.2
  have m1' := MW_trans m0 (MW_mono m1 Wof_op)
  have hs1 := m1.2.1.1
  have rw1 := RRw_mw r0.2.2.2.1 m1 Wof_rw
  unfold vOffer
  cases hq : sOuV A none none none with
  | none =>
    rw [hq] at e1
    simp only [vOI] at e1
    refine ⟨h1, ?_, op_fin r m1' rw1⟩
    simp (disch := first | assumption | omega) [f_M_offer, body_M_offer, j_meth, j_out, j_rok, j_pad, lg_sl, s_seq_w, isN_inl, isN_inr, s_if, jb, x_c, x_iloc, x_aloc, x_lloc, x_bin, x_un, o_add, o_sub, o_mul, o_and, o_or, o_xor, o_shl, o_shr, o_ushr, o_max, o_min, o_i2b, o_i2c, o_i2l, o_l2i, x_fld, j_fget, x_idx, j_aget, x_len, j_alen, x_ofb, x_ite, xs_nil, xs_cons, x_callv, x_calls, s_callv, s_calls, j_recv, j_ret, j_retv, b_cmp, b_and, b_or, b_not, b_ofi, b_ite, b_true, s_skip, s_set, j_ty, j_lset, j_kill, s_inc, s_fput, j_fput, s_fop, s_aput, j_aput, j_nar, s_aop, s_ret, s_retv, s_go, s_pop, x_linc, x_finc, Value.category, if_icmp.holds, List.flatMap_cons, List.flatMap_nil, List.length_cons, List.length_append, List.length_nil, List.set_cons_succ, List.set_cons_zero, List.getElem?_cons_succ, List.getElem?_cons_zero, List.replicate, ite_and', ite_or', ite_int', nI_leI, nI_ltI, nI_eq, nI_add, nI_1, pk_mul, nI_clamp, n_in', nI_pos', nI_pos, n_m1e, n_01, n_10, sT_98, sT_99, sT_100, sT_101, sT_102, sT_103, sT_104, sT_105, sT_106, sT_107, sT_108, sT_109, sT_110, sT_111, sT_112, sT_113, sT_114, sT_115, sT_116, sT_117, sT_118, sT_119, sT_120, sT_121, sT_122, sT_123, sT_124, sT_125, sT_126, sT_127, sT_128, sT_129, sT_130, sT_131, sT_132, sT_133, sT_134, sT_135, sT_136, sT_137, sT_138, sT_139, sT_140, sR_98_1, sR_98_4, sR_98_5, sR_98_6, sR_98_7, sR_98_8, sR_98_9, sR_98_10, sR_98_12, sR_98_13, sR_98_14, sR_98_15, sR_98_16, sR_98_17, sR_98_18, sR_98_19, sR_98_20, sR_98_21, sR_98_22, sR_98_23, sR_98_24, sR_98_25, sR_98_26, sR_98_27, sR_98_28, sR_98_29, sR_98_31, sR_98_34, sR_98_35, sR_98_36, sR_98_42, sR_98_44, sR_98_45, sR_98_47, sR_98_49, sR_98_51, sR_98_56, sR_98_58, sR_98_62, sR_98_65, sR_98_66, sR_98_69, nI_0, hh0', e1, m3_neg]
  | some v =>
    rw [hq] at e1
    simp only [vOI] at e1
    have hv := sOuV_lt hlt hq
    obtain ⟨h2, h4, e2, e4, m4, r4, hs2, hs3, f2⟩ := e_tell2 m1' (nI (sOut A none none none).2.2.1) (nI (sOut A none none none).2.2.2.1)
    refine ⟨h4, ?_, op_fin r m4 r4⟩
    have g2' : hI (hSetI h1 98 32 (nI 0)) 98 54 = nI (sOut A none none none).2.2.1 := by rw [hI_setI, if_neg (by omega)]; exact g1
    have g3' : hI h2 98 55 = nI (sOut A none none none).2.2.2.1 := by rw [Fr_I f2 (by simp [Wrw]), hI_setI, if_neg (by omega)]; exact g2
    have hh1 : hSetI h1 98 32 0 = hSetI h1 98 32 (nI 0) := by rw [nI_0]
    generalize hSetI h1 98 32 (nI 0) = h1' at *
    simp (disch := first | assumption | omega) [f_M_offer, body_M_offer, j_meth, j_out, j_rok, j_pad, lg_sl, s_seq_w, isN_inl, isN_inr, s_if, jb, x_c, x_iloc, x_aloc, x_lloc, x_bin, x_un, o_add, o_sub, o_mul, o_and, o_or, o_xor, o_shl, o_shr, o_ushr, o_max, o_min, o_i2b, o_i2c, o_i2l, o_l2i, x_fld, j_fget, x_idx, j_aget, x_len, j_alen, x_ofb, x_ite, xs_nil, xs_cons, x_callv, x_calls, s_callv, s_calls, j_recv, j_ret, j_retv, b_cmp, b_and, b_or, b_not, b_ofi, b_ite, b_true, s_skip, s_set, j_ty, j_lset, j_kill, s_inc, s_fput, j_fput, s_fop, s_aput, j_aput, j_nar, s_aop, s_ret, s_retv, s_go, s_pop, x_linc, x_finc, Value.category, if_icmp.holds, List.flatMap_cons, List.flatMap_nil, List.length_cons, List.length_append, List.length_nil, List.set_cons_succ, List.set_cons_zero, List.getElem?_cons_succ, List.getElem?_cons_zero, List.replicate, ite_and', ite_or', ite_int', nI_leI, nI_ltI, nI_eq, nI_add, nI_1, pk_mul, nI_clamp, n_in', nI_pos', nI_pos, n_m1e, n_01, n_10, sT_98, sT_99, sT_100, sT_101, sT_102, sT_103, sT_104, sT_105, sT_106, sT_107, sT_108, sT_109, sT_110, sT_111, sT_112, sT_113, sT_114, sT_115, sT_116, sT_117, sT_118, sT_119, sT_120, sT_121, sT_122, sT_123, sT_124, sT_125, sT_126, sT_127, sT_128, sT_129, sT_130, sT_131, sT_132, sT_133, sT_134, sT_135, sT_136, sT_137, sT_138, sT_139, sT_140, sR_98_1, sR_98_4, sR_98_5, sR_98_6, sR_98_7, sR_98_8, sR_98_9, sR_98_10, sR_98_12, sR_98_13, sR_98_14, sR_98_15, sR_98_16, sR_98_17, sR_98_18, sR_98_19, sR_98_20, sR_98_21, sR_98_22, sR_98_23, sR_98_24, sR_98_25, sR_98_26, sR_98_27, sR_98_28, sR_98_29, sR_98_31, sR_98_34, sR_98_35, sR_98_36, sR_98_42, sR_98_44, sR_98_45, sR_98_47, sR_98_49, sR_98_51, sR_98_56, sR_98_58, sR_98_62, sR_98_65, sR_98_66, sR_98_69, nI_0, hh0', e1, hh1, g2', e2, g3', e4]
theorem take_succ_map {l : List Nat} {i : Nat} (h : i < l.length) : (l.take (i + 1)).map nI = (l.take i).map nI ++ [nI (l.getD i 0)] := by
  rw [List.take_add_one, List.map_append, List.getElem?_eq_getElem h, List.getD_eq_getElem?_getD, List.getElem?_eq_getElem h]
  rfl
theorem o_M_all {A : AS} {tx : List Nat} {rw : List Int32} {h : jHp} (r : RMX A tx rw h) : ∃ h', f_M_all [.ref 98] h = some (some (.int (nI (sAllR A).length)), h') ∧ RMX A tx ((sAllR A).take 40 |>.map nI) h' ∧ Fr WM h h' := by
  have hs := r.1.1
  have w := r.1.2.1
  have r0 := RMX_33 r (nI 0)
  have m0 := op_33 r
  have hs0 := r0.1.1
  generalize hh0 : hSetI h 98 33 (nI 0) = h0 at *
  have hh0' : hSetI h 98 33 0 = h0 := by rw [← hh0, nI_0]
  obtain ⟨h1, e1, m1, rs1⟩ := e_M_findAll (A := A) (h0 := h0) (h := h0) (MW_refl r0.1 r0.2.1)
  have m1' := MW_trans m0 (MW_mono m1 Wgt_op)
  have hs1 := m1.2.1.1
  have hlen := sAllR_len w
  have m2 := MW_rw0 m1'
  have rs2 : RSt (sAllR A) (hSetI h1 98 32 (nI 0)) := RSt_fr (W := Wrw) rs1 (Fr_set _ (Or.inr ⟨rfl, rfl⟩)) (by unfold Wrw; intro a k; omega)
  have rr2 : RRw [] (hSetI h1 98 32 (nI 0)) := RRw_0
  have hh1 : hSetI h1 98 32 0 = hSetI h1 98 32 (nI 0) := by rw [nI_0]
  generalize hSetI h1 98 32 (nI 0) = h2 at *
  generalize hl : sAllR A = l at *
  have hL := loop_wp (lb := 1) (lc := 2) (c := lc_M_all_1) (b := lb_M_all_1) (u := lu_M_all_1) (min l.length 40)
    (fun i st => ∃ h', st = ([.ref 98, .int (nI i)], h') ∧ MW Wop A h h' ∧ RSt l h' ∧ RRw ((l.take i).map nI) h')
    (fun r => ∃ h' v, r = (.inl 0, ([.ref 98, v], h')) ∧ MW Wop A h h' ∧ RSt l h' ∧ RRw ((l.take 40).map nI) h')
    ?_ ?_ ([.ref 98, .int (nI 0)], h2) ⟨h2, rfl, m2, rs2, rr2⟩
  · obtain ⟨r, hl1, h3, v, rfl, m3, rs3, rr3⟩ := hL
    have hs3 := m3.2.1.1
    refine ⟨h3, ?_, op_fin r m3 rr3⟩
    simp only [nI_0] at hl1
    simp (disch := first | assumption | omega) [f_M_all, body_M_all, j_meth, j_out, j_rok, j_pad, lg_sl, s_seq_w, isN_inl, isN_inr, s_if, jb, x_c, x_iloc, x_aloc, x_lloc, x_bin, x_un, o_add, o_sub, o_mul, o_and, o_or, o_xor, o_shl, o_shr, o_ushr, o_max, o_min, o_i2b, o_i2c, o_i2l, o_l2i, x_fld, j_fget, x_idx, j_aget, x_len, j_alen, x_ofb, x_ite, xs_nil, xs_cons, x_callv, x_calls, s_callv, s_calls, j_recv, j_ret, j_retv, b_cmp, b_and, b_or, b_not, b_ofi, b_ite, b_true, s_skip, s_set, j_ty, j_lset, j_kill, s_inc, s_fput, j_fput, s_fop, s_aput, j_aput, j_nar, s_aop, s_ret, s_retv, s_go, s_pop, x_linc, x_finc, Value.category, if_icmp.holds, List.flatMap_cons, List.flatMap_nil, List.length_cons, List.length_append, List.length_nil, List.set_cons_succ, List.set_cons_zero, List.getElem?_cons_succ, List.getElem?_cons_zero, List.replicate, ite_and', ite_or', ite_int', nI_leI, nI_ltI, nI_eq, nI_add, nI_1, pk_mul, nI_clamp, n_in', nI_pos', nI_pos, n_m1e, n_01, n_10, sT_98, sT_99, sT_100, sT_101, sT_102, sT_103, sT_104, sT_105, sT_106, sT_107, sT_108, sT_109, sT_110, sT_111, sT_112, sT_113, sT_114, sT_115, sT_116, sT_117, sT_118, sT_119, sT_120, sT_121, sT_122, sT_123, sT_124, sT_125, sT_126, sT_127, sT_128, sT_129, sT_130, sT_131, sT_132, sT_133, sT_134, sT_135, sT_136, sT_137, sT_138, sT_139, sT_140, sR_98_1, sR_98_4, sR_98_5, sR_98_6, sR_98_7, sR_98_8, sR_98_9, sR_98_10, sR_98_12, sR_98_13, sR_98_14, sR_98_15, sR_98_16, sR_98_17, sR_98_18, sR_98_19, sR_98_20, sR_98_21, sR_98_22, sR_98_23, sR_98_24, sR_98_25, sR_98_26, sR_98_27, sR_98_28, sR_98_29, sR_98_31, sR_98_34, sR_98_35, sR_98_36, sR_98_42, sR_98_44, sR_98_45, sR_98_47, sR_98_49, sR_98_51, sR_98_56, sR_98_58, sR_98_62, sR_98_65, sR_98_66, sR_98_69, nI_0, hh0', e1, hh1, hl1, rs3.1]
  · rintro i st hi ⟨h3, rfl, m3, rs3, rr3⟩
    left
    have hs3 := m3.2.1.1
    have hi1 : i < l.length := by omega
    have hi2 : i < 40 := by omega
    have hlt : ((l.take i).map nI).length < 40 := by rw [List.length_map, List.length_take]; omega
    have g := rs3.2.1 i hi1
    obtain ⟨h4, e4, r4, f4⟩ := e_M_tell hs3 rr3 hlt (nI (l.getD i 0))
    rw [← take_succ_map hi1] at r4
    refine ⟨([.ref 98, .int (nI (i + 1))], h4), ?_, h4, rfl, MW_tell m3 f4, RSt_fr rs3 f4 (by unfold Wrw; intro a k; omega), r4⟩
    generalize l.getD i 0 = z at *
    simp (disch := first | assumption | omega) [lstp, lc_M_all_1, lb_M_all_1, lu_M_all_1, j_meth, j_out, j_rok, j_pad, lg_sl, s_seq_w, isN_inl, isN_inr, s_if, jb, x_c, x_iloc, x_aloc, x_lloc, x_bin, x_un, o_add, o_sub, o_mul, o_and, o_or, o_xor, o_shl, o_shr, o_ushr, o_max, o_min, o_i2b, o_i2c, o_i2l, o_l2i, x_fld, j_fget, x_idx, j_aget, x_len, j_alen, x_ofb, x_ite, xs_nil, xs_cons, x_callv, x_calls, s_callv, s_calls, j_recv, j_ret, j_retv, b_cmp, b_and, b_or, b_not, b_ofi, b_ite, b_true, s_skip, s_set, j_ty, j_lset, j_kill, s_inc, s_fput, j_fput, s_fop, s_aput, j_aput, j_nar, s_aop, s_ret, s_retv, s_go, s_pop, x_linc, x_finc, Value.category, if_icmp.holds, List.flatMap_cons, List.flatMap_nil, List.length_cons, List.length_append, List.length_nil, List.set_cons_succ, List.set_cons_zero, List.getElem?_cons_succ, List.getElem?_cons_zero, List.replicate, ite_and', ite_or', ite_int', nI_leI, nI_ltI, nI_eq, nI_add, nI_1, pk_mul, nI_clamp, n_in', nI_pos', nI_pos, n_m1e, n_01, n_10, sT_98, sT_99, sT_100, sT_101, sT_102, sT_103, sT_104, sT_105, sT_106, sT_107, sT_108, sT_109, sT_110, sT_111, sT_112, sT_113, sT_114, sT_115, sT_116, sT_117, sT_118, sT_119, sT_120, sT_121, sT_122, sT_123, sT_124, sT_125, sT_126, sT_127, sT_128, sT_129, sT_130, sT_131, sT_132, sT_133, sT_134, sT_135, sT_136, sT_137, sT_138, sT_139, sT_140, sR_98_1, sR_98_4, sR_98_5, sR_98_6, sR_98_7, sR_98_8, sR_98_9, sR_98_10, sR_98_12, sR_98_13, sR_98_14, sR_98_15, sR_98_16, sR_98_17, sR_98_18, sR_98_19, sR_98_20, sR_98_21, sR_98_22, sR_98_23, sR_98_24, sR_98_25, sR_98_26, sR_98_27, sR_98_28, sR_98_29, sR_98_31, sR_98_34, sR_98_35, sR_98_36, sR_98_42, sR_98_44, sR_98_45, sR_98_47, sR_98_49, sR_98_51, sR_98_56, sR_98_58, sR_98_62, sR_98_65, sR_98_66, sR_98_69, rs3.1, hi1, hi2, g, e4]
  · rintro st ⟨h3, rfl, m3, rs3, rr3⟩
    have hs3 := m3.2.1.1
    refine ⟨(.inl 0, ([.ref 98, .int (nI (min l.length 40))], h3)), ?_, h3, _, rfl, m3, rs3, ?_⟩
    · have hmin : ¬ (min l.length 40 < l.length ∧ min l.length 40 < 40) := by omega
      have hm40 : min l.length 40 ≤ 40 := by omega
      by_cases hc : min l.length 40 < l.length
      · have hc2 : ¬ min l.length 40 < 40 := by omega
        generalize min l.length 40 = mm at *
        simp (disch := first | assumption | omega) [lstp, lc_M_all_1, lb_M_all_1, lu_M_all_1, j_meth, j_out, j_rok, j_pad, lg_sl, s_seq_w, isN_inl, isN_inr, s_if, jb, x_c, x_iloc, x_aloc, x_lloc, x_bin, x_un, o_add, o_sub, o_mul, o_and, o_or, o_xor, o_shl, o_shr, o_ushr, o_max, o_min, o_i2b, o_i2c, o_i2l, o_l2i, x_fld, j_fget, x_idx, j_aget, x_len, j_alen, x_ofb, x_ite, xs_nil, xs_cons, x_callv, x_calls, s_callv, s_calls, j_recv, j_ret, j_retv, b_cmp, b_and, b_or, b_not, b_ofi, b_ite, b_true, s_skip, s_set, j_ty, j_lset, j_kill, s_inc, s_fput, j_fput, s_fop, s_aput, j_aput, j_nar, s_aop, s_ret, s_retv, s_go, s_pop, x_linc, x_finc, Value.category, if_icmp.holds, List.flatMap_cons, List.flatMap_nil, List.length_cons, List.length_append, List.length_nil, List.set_cons_succ, List.set_cons_zero, List.getElem?_cons_succ, List.getElem?_cons_zero, List.replicate, ite_and', ite_or', ite_int', nI_leI, nI_ltI, nI_eq, nI_add, nI_1, pk_mul, nI_clamp, n_in', nI_pos', nI_pos, n_m1e, n_01, n_10, sT_98, sT_99, sT_100, sT_101, sT_102, sT_103, sT_104, sT_105, sT_106, sT_107, sT_108, sT_109, sT_110, sT_111, sT_112, sT_113, sT_114, sT_115, sT_116, sT_117, sT_118, sT_119, sT_120, sT_121, sT_122, sT_123, sT_124, sT_125, sT_126, sT_127, sT_128, sT_129, sT_130, sT_131, sT_132, sT_133, sT_134, sT_135, sT_136, sT_137, sT_138, sT_139, sT_140, sR_98_1, sR_98_4, sR_98_5, sR_98_6, sR_98_7, sR_98_8, sR_98_9, sR_98_10, sR_98_12, sR_98_13, sR_98_14, sR_98_15, sR_98_16, sR_98_17, sR_98_18, sR_98_19, sR_98_20, sR_98_21, sR_98_22, sR_98_23, sR_98_24, sR_98_25, sR_98_26, sR_98_27, sR_98_28, sR_98_29, sR_98_31, sR_98_34, sR_98_35, sR_98_36, sR_98_42, sR_98_44, sR_98_45, sR_98_47, sR_98_49, sR_98_51, sR_98_56, sR_98_58, sR_98_62, sR_98_65, sR_98_66, sR_98_69, rs3.1, hc, hc2]
      · generalize min l.length 40 = mm at *
        simp (disch := first | assumption | omega) [lstp, lc_M_all_1, lb_M_all_1, lu_M_all_1, j_meth, j_out, j_rok, j_pad, lg_sl, s_seq_w, isN_inl, isN_inr, s_if, jb, x_c, x_iloc, x_aloc, x_lloc, x_bin, x_un, o_add, o_sub, o_mul, o_and, o_or, o_xor, o_shl, o_shr, o_ushr, o_max, o_min, o_i2b, o_i2c, o_i2l, o_l2i, x_fld, j_fget, x_idx, j_aget, x_len, j_alen, x_ofb, x_ite, xs_nil, xs_cons, x_callv, x_calls, s_callv, s_calls, j_recv, j_ret, j_retv, b_cmp, b_and, b_or, b_not, b_ofi, b_ite, b_true, s_skip, s_set, j_ty, j_lset, j_kill, s_inc, s_fput, j_fput, s_fop, s_aput, j_aput, j_nar, s_aop, s_ret, s_retv, s_go, s_pop, x_linc, x_finc, Value.category, if_icmp.holds, List.flatMap_cons, List.flatMap_nil, List.length_cons, List.length_append, List.length_nil, List.set_cons_succ, List.set_cons_zero, List.getElem?_cons_succ, List.getElem?_cons_zero, List.replicate, ite_and', ite_or', ite_int', nI_leI, nI_ltI, nI_eq, nI_add, nI_1, pk_mul, nI_clamp, n_in', nI_pos', nI_pos, n_m1e, n_01, n_10, sT_98, sT_99, sT_100, sT_101, sT_102, sT_103, sT_104, sT_105, sT_106, sT_107, sT_108, sT_109, sT_110, sT_111, sT_112, sT_113, sT_114, sT_115, sT_116, sT_117, sT_118, sT_119, sT_120, sT_121, sT_122, sT_123, sT_124, sT_125, sT_126, sT_127, sT_128, sT_129, sT_130, sT_131, sT_132, sT_133, sT_134, sT_135, sT_136, sT_137, sT_138, sT_139, sT_140, sR_98_1, sR_98_4, sR_98_5, sR_98_6, sR_98_7, sR_98_8, sR_98_9, sR_98_10, sR_98_12, sR_98_13, sR_98_14, sR_98_15, sR_98_16, sR_98_17, sR_98_18, sR_98_19, sR_98_20, sR_98_21, sR_98_22, sR_98_23, sR_98_24, sR_98_25, sR_98_26, sR_98_27, sR_98_28, sR_98_29, sR_98_31, sR_98_34, sR_98_35, sR_98_36, sR_98_42, sR_98_44, sR_98_45, sR_98_47, sR_98_49, sR_98_51, sR_98_56, sR_98_58, sR_98_62, sR_98_65, sR_98_66, sR_98_69, rs3.1, hc]
    · have : l.take (min l.length 40) = l.take 40 := by
        rw [Nat.min_comm, List.take_eq_take_iff]
        omega
      rw [this] at rr3
      exact rr3
