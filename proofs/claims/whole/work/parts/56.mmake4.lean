/-! the reference's tables, the end -/
theorem e_mk_5 {A : AS} {h : jHp} (hs : Shape h) {f s : Nat} {m : Int32} (hl : (sOrd A f).length ≤ 8) (hal : ∀ s, s < 2 ^ (sOrd A f).length → hI h 134 s = if sAlw A f (sSpr (sOrd A f) s) then 1 else 0) (hs8 : s < 2 ^ (sOrd A f).length) :
    s_loop 9 10 lc_M_make1_5 lb_M_make1_5 lu_M_make1_5 ([.ref 98, .int (nI f), .int m, .int (nI s), .int (nI s)], h) = some (.inl 0, ([.ref 98, .int (nI f), .int m, .int (nI s), .int (nI (mxN (sQ A f s) s))], h)) := by
  have hp : 2 ^ (sOrd A f).length ≤ 2 ^ 8 := Nat.pow_le_pow_right (by decide) hl
  have hX := loop_ind (lb := 9) (lc := 10) (c := lc_M_make1_5) (b := lb_M_make1_5) (u := lu_M_make1_5) (fun (t : Nat) => (([.ref 98, .int (nI f), .int m, .int (nI s), .int (nI t)], h) : jS))
    (fun t => t &&& s = t ∧ mxN (sQ A f s) s = mxN (sQ A f s) t)
    (fun _ r => r = (.inl 0, ([.ref 98, .int (nI f), .int m, .int (nI s), .int (nI (mxN (sQ A f s) s))], h)))
    (fun t => t) ?_ s ⟨Nat.and_self s, rfl⟩
  · obtain ⟨r, h1, rfl⟩ := hX
    exact h1
  · rintro t ⟨p1, p2⟩
    have hts := sub_le p1
    have e := hal t (by omega)
    by_cases hz : sAlw A f (sSpr (sOrd A f) t) = true
    · right
      have hq : sQ A f s t = true := by simp [sQ, p1, hz]
      rw [hz] at e
      rw [p2, mxN_of hq]
      refine ⟨_, ?_, rfl⟩
      simp (disch := first | assumption | omega) [lstp, lc_M_make1_5, j_meth, j_out, j_rok, j_pad, lg_sl, s_seq_w, isN_inl, isN_inr, s_if, jb, x_c, x_iloc, x_aloc, x_lloc, x_bin, x_un, o_add, o_sub, o_mul, o_and, o_or, o_xor, o_shl, o_shr, o_ushr, o_max, o_min, o_i2b, o_i2c, o_i2l, o_l2i, x_fld, j_fget, x_idx, j_aget, x_len, j_alen, x_ofb, x_ite, xs_nil, xs_cons, x_callv, x_calls, s_callv, s_calls, j_recv, j_ret, j_retv, b_cmp, b_and, b_or, b_not, b_ofi, b_ite, b_true, s_skip, s_set, j_ty, j_lset, j_kill, s_inc, s_fput, j_fput, s_fop, s_aput, j_aput, j_nar, s_aop, s_ret, s_retv, s_go, s_pop, x_linc, x_finc, Value.category, if_icmp.holds, List.flatMap_cons, List.flatMap_nil, List.length_cons, List.length_append, List.length_nil, List.set_cons_succ, List.set_cons_zero, List.getElem?_cons_succ, List.getElem?_cons_zero, List.replicate, ite_and', ite_or', ite_int', nI_leI, nI_ltI, nI_eq, nI_add, nI_1, pk_mul, nI_clamp, n_in', nI_pos', nI_pos, n_m1e, n_01, n_10, sT_98, sT_99, sT_100, sT_101, sT_102, sT_103, sT_104, sT_105, sT_106, sT_107, sT_108, sT_109, sT_110, sT_111, sT_112, sT_113, sT_114, sT_115, sT_116, sT_117, sT_118, sT_119, sT_120, sT_121, sT_122, sT_123, sT_124, sT_125, sT_126, sT_127, sT_128, sT_129, sT_130, sT_131, sT_132, sT_133, sT_134, sT_135, sT_136, sT_137, sT_138, sT_139, sT_140, sR_98_1, sR_98_4, sR_98_5, sR_98_6, sR_98_7, sR_98_8, sR_98_9, sR_98_10, sR_98_12, sR_98_13, sR_98_14, sR_98_15, sR_98_16, sR_98_17, sR_98_18, sR_98_19, sR_98_20, sR_98_21, sR_98_22, sR_98_23, sR_98_24, sR_98_25, sR_98_26, sR_98_27, sR_98_28, sR_98_29, sR_98_31, sR_98_34, sR_98_35, sR_98_36, sR_98_42, sR_98_44, sR_98_45, sR_98_47, sR_98_49, sR_98_51, sR_98_56, sR_98_58, sR_98_62, sR_98_65, sR_98_66, sR_98_69, hs, e]
    · left
      have hq : sQ A f s t = false := by simp [sQ, hz]
      have ht0 : t ≠ 0 := by
        intro q
        subst q
        rw [sQ_0] at hq
        cases hq
      have hlt : (t - 1) &&& s ≤ t - 1 := Nat.and_le_left
      have hz' : sAlw A f (sSpr (sOrd A f) t) = false := by simpa using hz
      rw [hz'] at e
      refine ⟨(t - 1) &&& s, ⟨sub_and _ _, ?_⟩, by omega, ?_, fun r hr => hr⟩
      · rw [p2]
        refine mxN_skip (by omega) fun u h1 h2 => ?_
        by_cases hu : u = t
        · subst hu; exact hq
        · have : ¬ u &&& s = u := fun hus => by
            have := sub_pred t s u p1 hus (by omega)
            omega
          simp [sQ, this]
      · have e1 : nI t - nI 1 = nI (t - 1) := pk_sub (by omega)
        simp (disch := first | assumption | omega) [lstp, lc_M_make1_5, lb_M_make1_5, lu_M_make1_5, j_meth, j_out, j_rok, j_pad, lg_sl, s_seq_w, isN_inl, isN_inr, s_if, jb, x_c, x_iloc, x_aloc, x_lloc, x_bin, x_un, o_add, o_sub, o_mul, o_and, o_or, o_xor, o_shl, o_shr, o_ushr, o_max, o_min, o_i2b, o_i2c, o_i2l, o_l2i, x_fld, j_fget, x_idx, j_aget, x_len, j_alen, x_ofb, x_ite, xs_nil, xs_cons, x_callv, x_calls, s_callv, s_calls, j_recv, j_ret, j_retv, b_cmp, b_and, b_or, b_not, b_ofi, b_ite, b_true, s_skip, s_set, j_ty, j_lset, j_kill, s_inc, s_fput, j_fput, s_fop, s_aput, j_aput, j_nar, s_aop, s_ret, s_retv, s_go, s_pop, x_linc, x_finc, Value.category, if_icmp.holds, List.flatMap_cons, List.flatMap_nil, List.length_cons, List.length_append, List.length_nil, List.set_cons_succ, List.set_cons_zero, List.getElem?_cons_succ, List.getElem?_cons_zero, List.replicate, ite_and', ite_or', ite_int', nI_leI, nI_ltI, nI_eq, nI_add, nI_1, pk_mul, nI_clamp, n_in', nI_pos', nI_pos, n_m1e, n_01, n_10, sT_98, sT_99, sT_100, sT_101, sT_102, sT_103, sT_104, sT_105, sT_106, sT_107, sT_108, sT_109, sT_110, sT_111, sT_112, sT_113, sT_114, sT_115, sT_116, sT_117, sT_118, sT_119, sT_120, sT_121, sT_122, sT_123, sT_124, sT_125, sT_126, sT_127, sT_128, sT_129, sT_130, sT_131, sT_132, sT_133, sT_134, sT_135, sT_136, sT_137, sT_138, sT_139, sT_140, sR_98_1, sR_98_4, sR_98_5, sR_98_6, sR_98_7, sR_98_8, sR_98_9, sR_98_10, sR_98_12, sR_98_13, sR_98_14, sR_98_15, sR_98_16, sR_98_17, sR_98_18, sR_98_19, sR_98_20, sR_98_21, sR_98_22, sR_98_23, sR_98_24, sR_98_25, sR_98_26, sR_98_27, sR_98_28, sR_98_29, sR_98_31, sR_98_34, sR_98_35, sR_98_36, sR_98_42, sR_98_44, sR_98_45, sR_98_47, sR_98_49, sR_98_51, sR_98_56, sR_98_58, sR_98_62, sR_98_65, sR_98_66, sR_98_69, hs, e, e1, n_and]
def Wtk (f a k : Nat) : Prop := a = 128 ∧ 256 * f ≤ k ∧ k < 256 * f + 256
theorem Wtk_cM (f : Nat) : ∀ a k, cM a k → ¬ Wtk f a k := by
  unfold cM Wtk
  intro a k h1 h2
  omega
theorem e_mk_4 {A : AS} {h : jHp} (k : RMK A h) {f : Nat} (hf : f < 4) (ro : ROrd (sOrd A f) h f) (hal : ∀ s, s < 2 ^ (sOrd A f).length → hI h 134 s = if sAlw A f (sSpr (sOrd A f) s) then 1 else 0) (j0 : Value) :
    ∃ h' j, s_loop 7 8 lc_M_make1_4 lb_M_make1_4 lu_M_make1_4 ([.ref 98, .int (nI f), .int (nI (sOrd A f).length), .int (nI 0), j0], h) = some (.inl 0, ([.ref 98, .int (nI f), .int (nI (sOrd A f).length), .int (nI (2 ^ (sOrd A f).length)), j], h')) ∧ Fr (Wtk f) h h' ∧ (∀ s, s < 2 ^ (sOrd A f).length → hI h' 128 (256 * f + s) = nI (sTkM A f s)) := by
  have w := k.2.1
  have h20 := w.2.2.1.1
  obtain ⟨hl, hm⟩ := sOrd_ok w f
  have hb : ∀ b ∈ sOrd A f, b < 20 := fun b h => by have := (hm b h).1; omega
  have hp : 2 ^ (sOrd A f).length ≤ 2 ^ 8 := Nat.pow_le_pow_right (by decide) hl
  have hX := loop_wp (lb := 7) (lc := 8) (c := lc_M_make1_4) (b := lb_M_make1_4) (u := lu_M_make1_4) (2 ^ (sOrd A f).length)
    (fun i st => ∃ h' j, st = ([.ref 98, .int (nI f), .int (nI (sOrd A f).length), .int (nI i), j], h') ∧ Fr (Wtk f) h h' ∧ (∀ s, s < i → hI h' 128 (256 * f + s) = nI (sTkM A f s)))
    (fun r => ∃ h' j, r = (.inl 0, ([.ref 98, .int (nI f), .int (nI (sOrd A f).length), .int (nI (2 ^ (sOrd A f).length)), j], h')) ∧ Fr (Wtk f) h h' ∧ (∀ s, s < 2 ^ (sOrd A f).length → hI h' 128 (256 * f + s) = nI (sTkM A f s)))
    ?_ ?_ ([.ref 98, .int (nI f), .int (nI (sOrd A f).length), .int (nI 0), j0], h) ⟨h, j0, rfl, Fr_refl _ _, fun j hj => by cases hj⟩
  · obtain ⟨r, h1, h', j, rfl, h2⟩ := hX
    exact ⟨h', j, h1, h2⟩
  · rintro i st hi ⟨h1, j, rfl, p1, p2⟩
    left
    have hs := Fr_shape k.1 p1
    have ro1 : ROrd (sOrd A f) h1 f := ⟨by rw [Fr_I p1 (by simp [Wtk])]; exact ro.1, fun k hk => by rw [Fr_I p1 (by simp [Wtk])]; exact ro.2 k hk⟩
    have hal1 : ∀ s, s < 2 ^ (sOrd A f).length → hI h1 134 s = if sAlw A f (sSpr (sOrd A f) s) then 1 else 0 := fun s hs => by rw [Fr_I p1 (by simp [Wtk])]; exact hal s hs
    have e5 := e_mk_5 hs (f := f) (m := nI (sOrd A f).length) hl hal1 hi
    have hmx := mxN_le (sQ A f i) i
    have e1 := e_M_spread hs hf hl hb ro1 (s := mxN (sQ A f i) i) (by omega)
    have e6 : nI f <<< (nI 8 &&& 31) = nI (256 * f) := by
      rw [n_shl f (k := 8) (by decide)]
      congr 1
      omega
    refine ⟨([.ref 98, .int (nI f), .int (nI (sOrd A f).length), .int (nI (i + 1)), .int (nI (mxN (sQ A f i) i))], hSetI h1 128 (256 * f + i) (nI (sTkM A f i))), ?_, _, _, rfl, Fr_trans p1 (Fr_set _ ⟨rfl, by omega, by omega⟩), ?_⟩
    · unfold sTkM
      simp (disch := first | assumption | omega) [lstp, lc_M_make1_4, lb_M_make1_4, lu_M_make1_4, j_meth, j_out, j_rok, j_pad, lg_sl, s_seq_w, isN_inl, isN_inr, s_if, jb, x_c, x_iloc, x_aloc, x_lloc, x_bin, x_un, o_add, o_sub, o_mul, o_and, o_or, o_xor, o_shl, o_shr, o_ushr, o_max, o_min, o_i2b, o_i2c, o_i2l, o_l2i, x_fld, j_fget, x_idx, j_aget, x_len, j_alen, x_ofb, x_ite, xs_nil, xs_cons, x_callv, x_calls, s_callv, s_calls, j_recv, j_ret, j_retv, b_cmp, b_and, b_or, b_not, b_ofi, b_ite, b_true, s_skip, s_set, j_ty, j_lset, j_kill, s_inc, s_fput, j_fput, s_fop, s_aput, j_aput, j_nar, s_aop, s_ret, s_retv, s_go, s_pop, x_linc, x_finc, Value.category, if_icmp.holds, List.flatMap_cons, List.flatMap_nil, List.length_cons, List.length_append, List.length_nil, List.set_cons_succ, List.set_cons_zero, List.getElem?_cons_succ, List.getElem?_cons_zero, List.replicate, ite_and', ite_or', ite_int', nI_leI, nI_ltI, nI_eq, nI_add, nI_1, pk_mul, nI_clamp, n_in', nI_pos', nI_pos, n_m1e, n_01, n_10, sT_98, sT_99, sT_100, sT_101, sT_102, sT_103, sT_104, sT_105, sT_106, sT_107, sT_108, sT_109, sT_110, sT_111, sT_112, sT_113, sT_114, sT_115, sT_116, sT_117, sT_118, sT_119, sT_120, sT_121, sT_122, sT_123, sT_124, sT_125, sT_126, sT_127, sT_128, sT_129, sT_130, sT_131, sT_132, sT_133, sT_134, sT_135, sT_136, sT_137, sT_138, sT_139, sT_140, sR_98_1, sR_98_4, sR_98_5, sR_98_6, sR_98_7, sR_98_8, sR_98_9, sR_98_10, sR_98_12, sR_98_13, sR_98_14, sR_98_15, sR_98_16, sR_98_17, sR_98_18, sR_98_19, sR_98_20, sR_98_21, sR_98_22, sR_98_23, sR_98_24, sR_98_25, sR_98_26, sR_98_27, sR_98_28, sR_98_29, sR_98_31, sR_98_34, sR_98_35, sR_98_36, sR_98_42, sR_98_44, sR_98_45, sR_98_47, sR_98_49, sR_98_51, sR_98_56, sR_98_58, sR_98_62, sR_98_65, sR_98_66, sR_98_69, hs, n_bk, hi, e1, e5, e6]
    · intro s hs
      rw [hI_setI]
      by_cases e : s = i
      · subst e; simp
      · rw [if_neg (by omega)]; exact p2 s (by omega)
  · rintro st ⟨h1, j, rfl, p1, p2⟩
    have hs := Fr_shape k.1 p1
    refine ⟨(.inl 0, ([.ref 98, .int (nI f), .int (nI (sOrd A f).length), .int (nI (2 ^ (sOrd A f).length)), j], h1)), ?_, h1, j, rfl, p1, p2⟩
    simp (disch := first | assumption | omega) [lstp, lc_M_make1_4, j_meth, j_out, j_rok, j_pad, lg_sl, s_seq_w, isN_inl, isN_inr, s_if, jb, x_c, x_iloc, x_aloc, x_lloc, x_bin, x_un, o_add, o_sub, o_mul, o_and, o_or, o_xor, o_shl, o_shr, o_ushr, o_max, o_min, o_i2b, o_i2c, o_i2l, o_l2i, x_fld, j_fget, x_idx, j_aget, x_len, j_alen, x_ofb, x_ite, xs_nil, xs_cons, x_callv, x_calls, s_callv, s_calls, j_recv, j_ret, j_retv, b_cmp, b_and, b_or, b_not, b_ofi, b_ite, b_true, s_skip, s_set, j_ty, j_lset, j_kill, s_inc, s_fput, j_fput, s_fop, s_aput, j_aput, j_nar, s_aop, s_ret, s_retv, s_go, s_pop, x_linc, x_finc, Value.category, if_icmp.holds, List.flatMap_cons, List.flatMap_nil, List.length_cons, List.length_append, List.length_nil, List.set_cons_succ, List.set_cons_zero, List.getElem?_cons_succ, List.getElem?_cons_zero, List.replicate, ite_and', ite_or', ite_int', nI_leI, nI_ltI, nI_eq, nI_add, nI_1, pk_mul, nI_clamp, n_in', nI_pos', nI_pos, n_m1e, n_01, n_10, sT_98, sT_99, sT_100, sT_101, sT_102, sT_103, sT_104, sT_105, sT_106, sT_107, sT_108, sT_109, sT_110, sT_111, sT_112, sT_113, sT_114, sT_115, sT_116, sT_117, sT_118, sT_119, sT_120, sT_121, sT_122, sT_123, sT_124, sT_125, sT_126, sT_127, sT_128, sT_129, sT_130, sT_131, sT_132, sT_133, sT_134, sT_135, sT_136, sT_137, sT_138, sT_139, sT_140, sR_98_1, sR_98_4, sR_98_5, sR_98_6, sR_98_7, sR_98_8, sR_98_9, sR_98_10, sR_98_12, sR_98_13, sR_98_14, sR_98_15, sR_98_16, sR_98_17, sR_98_18, sR_98_19, sR_98_20, sR_98_21, sR_98_22, sR_98_23, sR_98_24, sR_98_25, sR_98_26, sR_98_27, sR_98_28, sR_98_29, sR_98_31, sR_98_34, sR_98_35, sR_98_36, sR_98_42, sR_98_44, sR_98_45, sR_98_47, sR_98_49, sR_98_51, sR_98_56, sR_98_58, sR_98_62, sR_98_65, sR_98_66, sR_98_69, hs, n_bk]
