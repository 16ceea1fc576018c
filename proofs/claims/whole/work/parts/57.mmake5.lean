def Wm1 (f a k : Nat) : Prop := (a = 126 ∧ 8 * f ≤ k ∧ k < 8 * f + 8) ∨ (a = 127 ∧ k = f) ∨ a = 134 ∨ (a = 128 ∧ 256 * f ≤ k ∧ k < 256 * f + 256)
def RTk (A : AS) (h : jHp) (f : Nat) : Prop := ROrd (sOrd A f) h f ∧ ∀ s, s < 2 ^ (sOrd A f).length → hI h 128 (256 * f + s) = nI (sTkM A f s)
theorem e_M_make1 {A : AS} {h : jHp} (k : RMK A h) {f : Nat} (hf : f < 4) : ∃ h', f_M_make1 [.ref 98, .int (nI f)] h = some (none, h') ∧ Fr (Wm1 f) h h' ∧ RTk A h' f := by
  have w := k.2.1
  obtain ⟨hl, hm⟩ := sOrd_ok w f
  have hs := k.1
  obtain ⟨h1, j1, a1, a2, a3⟩ := e_mk_1 k hf .null
  have k1 := RMK_fr k a2 (W126_cM f)
  have hs1 := k1.1
  have b2 : Fr (fun a k => a = 127 ∧ k = f) h1 (hSetI h1 127 f (nI (sOrd A f).length)) := Fr_set _ ⟨rfl, rfl⟩
  have k2 := RMK_fr k1 b2 (fun a k h => by unfold cM at h; omega)
  have ro2 : ROrd (sOrd A f) (hSetI h1 127 f (nI (sOrd A f).length)) f := ⟨by rw [hI_setI, if_pos ⟨rfl, rfl⟩], fun k hk => by rw [hI_setI, if_neg (by omega)]; exact a3 k hk⟩
  obtain ⟨h3, c1, c2, c3⟩ := e_mk_3 k2 hf ro2 j1
  have k3 := RMK_fr k2 c2 Wal_cM
  have ro3 : ROrd (sOrd A f) h3 f := ⟨by rw [Fr_I c2 (by simp [Wal])]; exact ro2.1, fun k hk => by rw [Fr_I c2 (by simp [Wal])]; exact ro2.2 k hk⟩
  obtain ⟨h4, j4, d1, d2, d3⟩ := e_mk_4 k3 hf ro3 c3 j1
  refine ⟨h4, ?_, ?_, ⟨?_, ?_⟩, d3⟩
  · simp (disch := first | assumption | omega) [f_M_make1, body_M_make1, j_meth, j_out, j_rok, j_pad, lg_sl, s_seq_w, isN_inl, isN_inr, s_if, jb, x_c, x_iloc, x_aloc, x_lloc, x_bin, x_un, o_add, o_sub, o_mul, o_and, o_or, o_xor, o_shl, o_shr, o_ushr, o_max, o_min, o_i2b, o_i2c, o_i2l, o_l2i, x_fld, j_fget, x_idx, j_aget, x_len, j_alen, x_ofb, x_ite, xs_nil, xs_cons, x_callv, x_calls, s_callv, s_calls, j_recv, j_ret, j_retv, b_cmp, b_and, b_or, b_not, b_ofi, b_ite, b_true, s_skip, s_set, j_ty, j_lset, j_kill, s_inc, s_fput, j_fput, s_fop, s_aput, j_aput, j_nar, s_aop, s_ret, s_retv, s_go, s_pop, x_linc, x_finc, Value.category, if_icmp.holds, List.flatMap_cons, List.flatMap_nil, List.length_cons, List.length_append, List.length_nil, List.set_cons_succ, List.set_cons_zero, List.getElem?_cons_succ, List.getElem?_cons_zero, List.replicate, ite_and', ite_or', ite_int', nI_leI, nI_ltI, nI_eq, nI_add, nI_1, pk_mul, nI_clamp, n_in', nI_pos', nI_pos, n_m1e, n_01, n_10, sT_98, sT_99, sT_100, sT_101, sT_102, sT_103, sT_104, sT_105, sT_106, sT_107, sT_108, sT_109, sT_110, sT_111, sT_112, sT_113, sT_114, sT_115, sT_116, sT_117, sT_118, sT_119, sT_120, sT_121, sT_122, sT_123, sT_124, sT_125, sT_126, sT_127, sT_128, sT_129, sT_130, sT_131, sT_132, sT_133, sT_134, sT_135, sT_136, sT_137, sT_138, sT_139, sT_140, sR_98_1, sR_98_4, sR_98_5, sR_98_6, sR_98_7, sR_98_8, sR_98_9, sR_98_10, sR_98_12, sR_98_13, sR_98_14, sR_98_15, sR_98_16, sR_98_17, sR_98_18, sR_98_19, sR_98_20, sR_98_21, sR_98_22, sR_98_23, sR_98_24, sR_98_25, sR_98_26, sR_98_27, sR_98_28, sR_98_29, sR_98_31, sR_98_34, sR_98_35, sR_98_36, sR_98_42, sR_98_44, sR_98_45, sR_98_47, sR_98_49, sR_98_51, sR_98_56, sR_98_58, sR_98_62, sR_98_65, sR_98_66, sR_98_69, hs, hs1, a1, c1, d1]
  · refine Fr_trans (Fr_trans (Fr_trans (Fr_mono a2 fun a k q => Or.inl q) (Fr_mono b2 fun a k q => Or.inr (Or.inl q))) (Fr_mono c2 fun a k q => Or.inr (Or.inr (Or.inl q)))) (Fr_mono d2 fun a k q => Or.inr (Or.inr (Or.inr q)))
  · rw [Fr_I d2 (by simp [Wtk])]; exact ro3.1
  · intro k hk
    rw [Fr_I d2 (by simp [Wtk])]; exact ro3.2 k hk
/-- the tables are as the state says, if they are made -/
def RMT (A : AS) (h : jHp) : Prop := hI h 98 37 = 0 ∨ (hI h 98 37 = 1 ∧ ∀ f, f < aNo A → RTk A h f)
def Wmk (a k : Nat) : Prop := (a = 98 ∧ k = 37) ∨ (126 ≤ a ∧ a ≤ 128) ∨ a = 134
theorem Wmk_cM : ∀ a k, cM a k → ¬ Wmk a k := by
  unfold cM Wmk
  intro a k h1 h2
  omega
theorem e_M_make {A : AS} {h : jHp} (k : RMK A h) (t : RMT A h) : ∃ h', f_M_make [.ref 98] h = some (none, h') ∧ Fr Wmk h h' ∧ hI h' 98 37 = 1 ∧ ∀ f, f < aNo A → RTk A h' f := by
  have hs := k.1
  have w := k.2.1
  have hno := w.2.1
  rcases t with t | ⟨t1, t2⟩
  case inr =>
    refine ⟨h, ?_, Fr_refl _ _, t1, t2⟩
    simp (disch := first | assumption | omega) [f_M_make, body_M_make, j_meth, j_out, j_rok, j_pad, lg_sl, s_seq_w, isN_inl, isN_inr, s_if, jb, x_c, x_iloc, x_aloc, x_lloc, x_bin, x_un, o_add, o_sub, o_mul, o_and, o_or, o_xor, o_shl, o_shr, o_ushr, o_max, o_min, o_i2b, o_i2c, o_i2l, o_l2i, x_fld, j_fget, x_idx, j_aget, x_len, j_alen, x_ofb, x_ite, xs_nil, xs_cons, x_callv, x_calls, s_callv, s_calls, j_recv, j_ret, j_retv, b_cmp, b_and, b_or, b_not, b_ofi, b_ite, b_true, s_skip, s_set, j_ty, j_lset, j_kill, s_inc, s_fput, j_fput, s_fop, s_aput, j_aput, j_nar, s_aop, s_ret, s_retv, s_go, s_pop, x_linc, x_finc, Value.category, if_icmp.holds, List.flatMap_cons, List.flatMap_nil, List.length_cons, List.length_append, List.length_nil, List.set_cons_succ, List.set_cons_zero, List.getElem?_cons_succ, List.getElem?_cons_zero, List.replicate, ite_and', ite_or', ite_int', nI_leI, nI_ltI, nI_eq, nI_add, nI_1, pk_mul, nI_clamp, n_in', nI_pos', nI_pos, n_m1e, n_01, n_10, sT_98, sT_99, sT_100, sT_101, sT_102, sT_103, sT_104, sT_105, sT_106, sT_107, sT_108, sT_109, sT_110, sT_111, sT_112, sT_113, sT_114, sT_115, sT_116, sT_117, sT_118, sT_119, sT_120, sT_121, sT_122, sT_123, sT_124, sT_125, sT_126, sT_127, sT_128, sT_129, sT_130, sT_131, sT_132, sT_133, sT_134, sT_135, sT_136, sT_137, sT_138, sT_139, sT_140, sR_98_1, sR_98_4, sR_98_5, sR_98_6, sR_98_7, sR_98_8, sR_98_9, sR_98_10, sR_98_12, sR_98_13, sR_98_14, sR_98_15, sR_98_16, sR_98_17, sR_98_18, sR_98_19, sR_98_20, sR_98_21, sR_98_22, sR_98_23, sR_98_24, sR_98_25, sR_98_26, sR_98_27, sR_98_28, sR_98_29, sR_98_31, sR_98_34, sR_98_35, sR_98_36, sR_98_42, sR_98_44, sR_98_45, sR_98_47, sR_98_49, sR_98_51, sR_98_56, sR_98_58, sR_98_62, sR_98_65, sR_98_66, sR_98_69, hs, t1]
  have b2 : Fr Wmk h (hSetI h 98 37 (nI 1)) := Fr_set _ (Or.inl ⟨rfl, rfl⟩)
  have hX := loop_wp (lb := 1) (lc := 2) (c := lc_M_make_1) (b := lb_M_make_1) (u := lu_M_make_1) (aNo A)
    (fun i st => ∃ h', st = ([.ref 98, .int (nI i)], h') ∧ Fr Wmk h h' ∧ hI h' 98 37 = 1 ∧ ∀ f, f < i → RTk A h' f)
    (fun r => ∃ h', r = (.inl 0, ([.ref 98, .int (nI (aNo A))], h')) ∧ Fr Wmk h h' ∧ hI h' 98 37 = 1 ∧ ∀ f, f < aNo A → RTk A h' f)
    ?_ ?_ ([.ref 98, .int (nI 0)], hSetI h 98 37 (nI 1)) ⟨_, rfl, b2, by rw [hI_setI, if_pos ⟨rfl, rfl⟩]; exact n_11, fun f hf => by omega⟩
  · obtain ⟨r, h1, h', rfl, h2⟩ := hX
    refine ⟨h', ?_, h2⟩
    rw [n_11] at h1
    simp (disch := first | assumption | omega) [f_M_make, body_M_make, j_meth, j_out, j_rok, j_pad, lg_sl, s_seq_w, isN_inl, isN_inr, s_if, jb, x_c, x_iloc, x_aloc, x_lloc, x_bin, x_un, o_add, o_sub, o_mul, o_and, o_or, o_xor, o_shl, o_shr, o_ushr, o_max, o_min, o_i2b, o_i2c, o_i2l, o_l2i, x_fld, j_fget, x_idx, j_aget, x_len, j_alen, x_ofb, x_ite, xs_nil, xs_cons, x_callv, x_calls, s_callv, s_calls, j_recv, j_ret, j_retv, b_cmp, b_and, b_or, b_not, b_ofi, b_ite, b_true, s_skip, s_set, j_ty, j_lset, j_kill, s_inc, s_fput, j_fput, s_fop, s_aput, j_aput, j_nar, s_aop, s_ret, s_retv, s_go, s_pop, x_linc, x_finc, Value.category, if_icmp.holds, List.flatMap_cons, List.flatMap_nil, List.length_cons, List.length_append, List.length_nil, List.set_cons_succ, List.set_cons_zero, List.getElem?_cons_succ, List.getElem?_cons_zero, List.replicate, ite_and', ite_or', ite_int', nI_leI, nI_ltI, nI_eq, nI_add, nI_1, pk_mul, nI_clamp, n_in', nI_pos', nI_pos, n_m1e, n_01, n_10, sT_98, sT_99, sT_100, sT_101, sT_102, sT_103, sT_104, sT_105, sT_106, sT_107, sT_108, sT_109, sT_110, sT_111, sT_112, sT_113, sT_114, sT_115, sT_116, sT_117, sT_118, sT_119, sT_120, sT_121, sT_122, sT_123, sT_124, sT_125, sT_126, sT_127, sT_128, sT_129, sT_130, sT_131, sT_132, sT_133, sT_134, sT_135, sT_136, sT_137, sT_138, sT_139, sT_140, sR_98_1, sR_98_4, sR_98_5, sR_98_6, sR_98_7, sR_98_8, sR_98_9, sR_98_10, sR_98_12, sR_98_13, sR_98_14, sR_98_15, sR_98_16, sR_98_17, sR_98_18, sR_98_19, sR_98_20, sR_98_21, sR_98_22, sR_98_23, sR_98_24, sR_98_25, sR_98_26, sR_98_27, sR_98_28, sR_98_29, sR_98_31, sR_98_34, sR_98_35, sR_98_36, sR_98_42, sR_98_44, sR_98_45, sR_98_47, sR_98_49, sR_98_51, sR_98_56, sR_98_58, sR_98_62, sR_98_65, sR_98_66, sR_98_69, hs, t, h1, n_11]
  · rintro i st hi ⟨h1, rfl, p1, p2, p3⟩
    left
    have k1 := RMK_fr k p1 Wmk_cM
    have hs1 := k1.1
    have q1 := k1.2.2.2.1.1
    obtain ⟨h2, e1, e2, e3⟩ := e_M_make1 k1 (f := i) (by omega)
    refine ⟨([.ref 98, .int (nI (i + 1))], h2), ?_, h2, rfl, Fr_trans p1 (Fr_mono e2 fun a k q => by unfold Wm1 at q; unfold Wmk; omega), ?_, ?_⟩
    · simp (disch := first | assumption | omega) [lstp, lc_M_make_1, lb_M_make_1, lu_M_make_1, j_meth, j_out, j_rok, j_pad, lg_sl, s_seq_w, isN_inl, isN_inr, s_if, jb, x_c, x_iloc, x_aloc, x_lloc, x_bin, x_un, o_add, o_sub, o_mul, o_and, o_or, o_xor, o_shl, o_shr, o_ushr, o_max, o_min, o_i2b, o_i2c, o_i2l, o_l2i, x_fld, j_fget, x_idx, j_aget, x_len, j_alen, x_ofb, x_ite, xs_nil, xs_cons, x_callv, x_calls, s_callv, s_calls, j_recv, j_ret, j_retv, b_cmp, b_and, b_or, b_not, b_ofi, b_ite, b_true, s_skip, s_set, j_ty, j_lset, j_kill, s_inc, s_fput, j_fput, s_fop, s_aput, j_aput, j_nar, s_aop, s_ret, s_retv, s_go, s_pop, x_linc, x_finc, Value.category, if_icmp.holds, List.flatMap_cons, List.flatMap_nil, List.length_cons, List.length_append, List.length_nil, List.set_cons_succ, List.set_cons_zero, List.getElem?_cons_succ, List.getElem?_cons_zero, List.replicate, ite_and', ite_or', ite_int', nI_leI, nI_ltI, nI_eq, nI_add, nI_1, pk_mul, nI_clamp, n_in', nI_pos', nI_pos, n_m1e, n_01, n_10, sT_98, sT_99, sT_100, sT_101, sT_102, sT_103, sT_104, sT_105, sT_106, sT_107, sT_108, sT_109, sT_110, sT_111, sT_112, sT_113, sT_114, sT_115, sT_116, sT_117, sT_118, sT_119, sT_120, sT_121, sT_122, sT_123, sT_124, sT_125, sT_126, sT_127, sT_128, sT_129, sT_130, sT_131, sT_132, sT_133, sT_134, sT_135, sT_136, sT_137, sT_138, sT_139, sT_140, sR_98_1, sR_98_4, sR_98_5, sR_98_6, sR_98_7, sR_98_8, sR_98_9, sR_98_10, sR_98_12, sR_98_13, sR_98_14, sR_98_15, sR_98_16, sR_98_17, sR_98_18, sR_98_19, sR_98_20, sR_98_21, sR_98_22, sR_98_23, sR_98_24, sR_98_25, sR_98_26, sR_98_27, sR_98_28, sR_98_29, sR_98_31, sR_98_34, sR_98_35, sR_98_36, sR_98_42, sR_98_44, sR_98_45, sR_98_47, sR_98_49, sR_98_51, sR_98_56, sR_98_58, sR_98_62, sR_98_65, sR_98_66, sR_98_69, hs, hs1, q1, hi, e1]
    · rw [Fr_I e2 (by simp [Wm1])]; exact p2
    · intro f hf
      by_cases e : f = i
      · subst e; exact e3
      · have r := p3 f (by omega)
        have hl := (sOrd_ok w f).1
        have hp : 2 ^ (sOrd A f).length ≤ 2 ^ 8 := Nat.pow_le_pow_right (by decide) hl
        refine ⟨⟨?_, fun k hk => ?_⟩, fun s hs => ?_⟩
        · rw [Fr_I e2 (by unfold Wm1; omega)]; exact r.1.1
        · rw [Fr_I e2 (by unfold Wm1; omega)]; exact r.1.2 k hk
        · rw [Fr_I e2 (by unfold Wm1; omega)]; exact r.2 s hs
  · rintro st ⟨h1, rfl, p1, p2, p3⟩
    have k1 := RMK_fr k p1 Wmk_cM
    have hs1 := k1.1
    have q1 := k1.2.2.2.1.1
    refine ⟨(.inl 0, ([.ref 98, .int (nI (aNo A))], h1)), ?_, h1, rfl, p1, p2, p3⟩
    simp (disch := first | assumption | omega) [lstp, lc_M_make_1, j_meth, j_out, j_rok, j_pad, lg_sl, s_seq_w, isN_inl, isN_inr, s_if, jb, x_c, x_iloc, x_aloc, x_lloc, x_bin, x_un, o_add, o_sub, o_mul, o_and, o_or, o_xor, o_shl, o_shr, o_ushr, o_max, o_min, o_i2b, o_i2c, o_i2l, o_l2i, x_fld, j_fget, x_idx, j_aget, x_len, j_alen, x_ofb, x_ite, xs_nil, xs_cons, x_callv, x_calls, s_callv, s_calls, j_recv, j_ret, j_retv, b_cmp, b_and, b_or, b_not, b_ofi, b_ite, b_true, s_skip, s_set, j_ty, j_lset, j_kill, s_inc, s_fput, j_fput, s_fop, s_aput, j_aput, j_nar, s_aop, s_ret, s_retv, s_go, s_pop, x_linc, x_finc, Value.category, if_icmp.holds, List.flatMap_cons, List.flatMap_nil, List.length_cons, List.length_append, List.length_nil, List.set_cons_succ, List.set_cons_zero, List.getElem?_cons_succ, List.getElem?_cons_zero, List.replicate, ite_and', ite_or', ite_int', nI_leI, nI_ltI, nI_eq, nI_add, nI_1, pk_mul, nI_clamp, n_in', nI_pos', nI_pos, n_m1e, n_01, n_10, sT_98, sT_99, sT_100, sT_101, sT_102, sT_103, sT_104, sT_105, sT_106, sT_107, sT_108, sT_109, sT_110, sT_111, sT_112, sT_113, sT_114, sT_115, sT_116, sT_117, sT_118, sT_119, sT_120, sT_121, sT_122, sT_123, sT_124, sT_125, sT_126, sT_127, sT_128, sT_129, sT_130, sT_131, sT_132, sT_133, sT_134, sT_135, sT_136, sT_137, sT_138, sT_139, sT_140, sR_98_1, sR_98_4, sR_98_5, sR_98_6, sR_98_7, sR_98_8, sR_98_9, sR_98_10, sR_98_12, sR_98_13, sR_98_14, sR_98_15, sR_98_16, sR_98_17, sR_98_18, sR_98_19, sR_98_20, sR_98_21, sR_98_22, sR_98_23, sR_98_24, sR_98_25, sR_98_26, sR_98_27, sR_98_28, sR_98_29, sR_98_31, sR_98_34, sR_98_35, sR_98_36, sR_98_42, sR_98_44, sR_98_45, sR_98_47, sR_98_49, sR_98_51, sR_98_56, sR_98_58, sR_98_62, sR_98_65, sR_98_66, sR_98_69, hs, hs1, q1]
theorem e_M_takeOf {A : AS} {h : jHp} (k : RMK A h) (t : RMT A h) {f S : Nat} (hf : f < aNo A) (hS : S < 2 ^ 31) : ∃ h', f_M_takeOf [.ref 98, .int (nI f), .int (nI S)] h = some (some (.int (nI (sTk A f S))), h') ∧ Fr Wmk h h' ∧ hI h' 98 37 = 1 ∧ ∀ f, f < aNo A → RTk A h' f := by
  obtain ⟨h1, e1, e2, e3, e4⟩ := e_M_make k t
  have w := k.2.1
  have hno := w.2.1
  have hs := k.1
  have hs1 := Fr_shape k.1 e2
  obtain ⟨hl, hm⟩ := sOrd_ok w f
  have h20 := w.2.2.1.1
  have hb : ∀ b ∈ sOrd A f, b < 20 := fun b h => by have := (hm b h).1; omega
  have hp : 2 ^ (sOrd A f).length ≤ 2 ^ 8 := Nat.pow_le_pow_right (by decide) hl
  obtain ⟨r1, r2⟩ := e4 f hf
  have g1 := e_M_gather hs1 (by omega) hl hb r1 hS
  have g2 := sGat_lt (l := sOrd A f) S
  have g3 := r2 _ g2
  have e6 : nI f <<< (nI 8 &&& 31) = nI (256 * f) := by
    rw [n_shl f (k := 8) (by decide)]
    congr 1
    omega
  refine ⟨h1, ?_, e2, e3, e4⟩
  unfold sTk
  generalize sGat (sOrd A f) S = g at *
  simp (disch := first | assumption | omega) [f_M_takeOf, body_M_takeOf, j_meth, j_out, j_rok, j_pad, lg_sl, s_seq_w, isN_inl, isN_inr, s_if, jb, x_c, x_iloc, x_aloc, x_lloc, x_bin, x_un, o_add, o_sub, o_mul, o_and, o_or, o_xor, o_shl, o_shr, o_ushr, o_max, o_min, o_i2b, o_i2c, o_i2l, o_l2i, x_fld, j_fget, x_idx, j_aget, x_len, j_alen, x_ofb, x_ite, xs_nil, xs_cons, x_callv, x_calls, s_callv, s_calls, j_recv, j_ret, j_retv, b_cmp, b_and, b_or, b_not, b_ofi, b_ite, b_true, s_skip, s_set, j_ty, j_lset, j_kill, s_inc, s_fput, j_fput, s_fop, s_aput, j_aput, j_nar, s_aop, s_ret, s_retv, s_go, s_pop, x_linc, x_finc, Value.category, if_icmp.holds, List.flatMap_cons, List.flatMap_nil, List.length_cons, List.length_append, List.length_nil, List.set_cons_succ, List.set_cons_zero, List.getElem?_cons_succ, List.getElem?_cons_zero, List.replicate, ite_and', ite_or', ite_int', nI_leI, nI_ltI, nI_eq, nI_add, nI_1, pk_mul, nI_clamp, n_in', nI_pos', nI_pos, n_m1e, n_01, n_10, sT_98, sT_99, sT_100, sT_101, sT_102, sT_103, sT_104, sT_105, sT_106, sT_107, sT_108, sT_109, sT_110, sT_111, sT_112, sT_113, sT_114, sT_115, sT_116, sT_117, sT_118, sT_119, sT_120, sT_121, sT_122, sT_123, sT_124, sT_125, sT_126, sT_127, sT_128, sT_129, sT_130, sT_131, sT_132, sT_133, sT_134, sT_135, sT_136, sT_137, sT_138, sT_139, sT_140, sR_98_1, sR_98_4, sR_98_5, sR_98_6, sR_98_7, sR_98_8, sR_98_9, sR_98_10, sR_98_12, sR_98_13, sR_98_14, sR_98_15, sR_98_16, sR_98_17, sR_98_18, sR_98_19, sR_98_20, sR_98_21, sR_98_22, sR_98_23, sR_98_24, sR_98_25, sR_98_26, sR_98_27, sR_98_28, sR_98_29, sR_98_31, sR_98_34, sR_98_35, sR_98_36, sR_98_42, sR_98_44, sR_98_45, sR_98_47, sR_98_49, sR_98_51, sR_98_56, sR_98_58, sR_98_62, sR_98_65, sR_98_66, sR_98_69, hs, hs1, e1, e6, g1, g3]
