/-! the reference: gone, count, of, row -/
theorem Wop_gn : ∀ a k, Wop a k → Wgn a k := fun _ _ h => Or.inl h
theorem gn_fin {A : AS} {tx : List Nat} {rw rw' : List Int32} {h h1 : jHp} (r : RMX A tx rw h) (m : MW Wgn A h h1) (r' : RRw rw' h1) (ro : ROf none none none h1) : RMX A tx rw' h1 ∧ Fr WM h h1 := by
  have e : ∀ a k, (a = 124 ∨ (a = 98 ∧ k = 30)) → hI h1 a k = hI h a k := fun a k q => Fr_I m.1 (by unfold Wgn Wop; omega)
  exact ⟨⟨m.2.1, m.2.2, RTx_eq r.2.2.1 (e _ _ (by simp)) (fun k => e _ _ (by simp)), r', ro⟩, Fr_mono m.1 (by unfold Wgn Wop WM; intro a k; omega)⟩
theorem in01 (x : Int32) : (nI 0 ≤ x ∧ x ≤ nI 1) ↔ (x = nI 0 ∨ x = nI 1) := by
  constructor
  · rintro ⟨a, b⟩
    obtain ⟨n, hn, rfl⟩ := nI_of (x := x) (Int32.not_lt.mpr a)
    rw [nI_leI (by omega) (by omega)] at b
    have : n = 0 ∨ n = 1 := by omega
    rcases this with rfl | rfl
    · exact Or.inl rfl
    · exact Or.inr rfl
  · rintro (rfl | rfl) <;> decide
noncomputable def gnT : jSt := (s_seq (s_set 0 4 (x_callv 12 f_M_outcome (xs_cons (x_aloc 0) xs_nil))) (s_seq (s_fput 12 0 0 60 (x_aloc 0) (x_c (.int (-1)))) (s_seq (s_fput 12 0 0 61 (x_aloc 0) (x_c (.int (-1)))) (s_seq (s_if (b_or (b_cmp .lt (x_iloc 3) (x_c (.int 0))) (b_cmp .lt (x_iloc 4) (x_c (.int 0)))) (s_ret (x_c (.int (-3)))) s_skip) (s_seq (s_set 0 5 (x_c (.int (nI 0)))) (s_seq (s_seq (s_set 0 6 (x_c (.int (nI 0)))) (s_loop 1 2 (lc_M_gone_1) (lb_M_gone_1) (lu_M_gone_1))) (s_seq (s_fput 12 0 0 32 (x_aloc 0) (x_c (.int (nI 0)))) (s_seq (s_callv 12 f_M_tell (xs_cons (x_aloc 0) (xs_cons (x_iloc 4) xs_nil))) (s_seq (s_callv 12 f_M_tell (xs_cons (x_aloc 0) (xs_cons (x_iloc 5) xs_nil))) (s_ret (x_calls f_M_many (xs_cons (x_iloc 5) xs_nil))))))))))))
theorem gn_body : body_M_gone = (s_seq (s_fput 12 0 0 33 (x_aloc 0) (x_c (.int (nI 0)))) (s_seq (s_if (b_or (b_not (b_ofi (x_calls f_M_in (xs_cons (x_iloc 1) (xs_cons (x_c (.int (nI 0))) (xs_cons (x_c (.int (nI 1))) xs_nil)))))) (b_ite (b_cmp .eq (x_iloc 1) (x_c (.int 0))) (b_not (b_ofi (x_callv 12 f_M_isPerson (xs_cons (x_aloc 0) (xs_cons (x_iloc 2) xs_nil))))) (b_not (b_ofi (x_callv 12 f_M_isBond (xs_cons (x_aloc 0) (xs_cons (x_iloc 2) xs_nil))))))) (s_ret (x_c (.int (-1)))) s_skip) (s_seq (s_set 0 3 (x_callv 12 f_M_outcome (xs_cons (x_aloc 0) xs_nil))) (s_seq (s_if (b_cmp .eq (x_iloc 1) (x_c (.int 0))) (s_fput 12 0 0 60 (x_aloc 0) (x_iloc 2)) (s_fput 12 0 0 61 (x_aloc 0) (x_iloc 2))) gnT)))) := rfl
/-- from the second outcome on -/
theorem e_gone_t {A : AS} {tx : List Nat} {rw : List Int32} {h h1 h2 : jHp} (r : RMX A tx rw h) (m2 : MW Wgn A h h2) (rr2 : RRw rw h2) {x y : Int32} {si mi : Option Nat} (lo : LOk A none si mi) (ro : ROf none si mi h2) (hlt0 : ∀ v, sOuV A none none none = some v → v < 2 ^ 20) (f_ : Fr Wgn h1 h2) :
    ∃ h', j_out 1 (gnT ([.ref 98, .int x, .int y, .int (vOI (sOuV A none none none)), .null, .null, .null], h2)) = some (some (.int (vG2 A rw (sOuV A none none none) (sOuV A none si mi)).1), h') ∧ RMX A tx (vG2 A rw (sOuV A none none none) (sOuV A none si mi)).2 h' ∧ Fr WM h h' := by
  have k2 := m2.2.1
  have hs2 := k2.1
  have w := k2.2.1
  obtain ⟨h3, e3, m3, -, -, hlt3⟩ := e_M_outcome k2 m2.2.2 lo ro
  have m3' := MW_trans m2 (MW_mono m3 fun a k q => Wop_gn a k (Wof_op a k q))
  have rr3 := RRw_mw rr2 m3 Wof_rw
  have ro3 := ROf_fr ro m3.1 (by unfold Wof Wmk; intro a k; omega)
  have f4 : Fr (fun a k => a = 98 ∧ (k = 60 ∨ k = 61)) h3 (hSetI (hSetI h3 98 60 (-1)) 98 61 (-1)) := Fr_trans (Fr_set _ ⟨rfl, Or.inl rfl⟩) (Fr_set _ ⟨rfl, Or.inr rfl⟩)
  have m4 : MW Wgn A h (hSetI (hSetI h3 98 60 (-1)) 98 61 (-1)) := MW_step m3' f4 (by intro a k hv; unfold Wgn Wop cM; omega)
  have rr4 : RRw rw (hSetI (hSetI h3 98 60 (-1)) 98 61 (-1)) := RRw_eq rr3 (Fr_I f4 (by omega)) (fun k => Fr_I f4 (by omega))
  have ro4 : ROf none none none (hSetI (hSetI h3 98 60 (-1)) 98 61 (-1)) := ⟨by rw [Fr_I f4 (by omega)]; exact ro3.1, fun q hq => (by cases hq), by rw [hI_setI, if_neg (by omega), hI_setI, if_pos ⟨rfl, rfl⟩]; rfl, by rw [hI_setI, if_pos ⟨rfl, rfl⟩]; rfl⟩
  have hs3 := m3.2.1.1
  have hs4 := m4.2.1.1
  generalize hh4 : hSetI (hSetI h3 98 60 (-1)) 98 61 (-1) = h4 at *
  have hT3 : ∀ T, sOuV A none si mi = some T → T < 2 ^ 20 := fun T q => sOuV_lt hlt3 q
  clear hlt3
  generalize sOuV A none none none = o1 at *
  generalize sOuV A none si mi = o2 at *
  cases o1 with
  | none =>
    refine ⟨h4, ?_, gn_fin r m4 rr4 ro4⟩
    simp (disch := first | assumption | omega) [gnT, j_meth, j_out, j_rok, j_pad, lg_sl, s_seq_w, isN_inl, isN_inr, s_if, jb, x_c, x_iloc, x_aloc, x_lloc, x_bin, x_un, o_add, o_sub, o_mul, o_and, o_or, o_xor, o_shl, o_shr, o_ushr, o_max, o_min, o_i2b, o_i2c, o_i2l, o_l2i, x_fld, j_fget, x_idx, j_aget, x_len, j_alen, x_ofb, x_ite, xs_nil, xs_cons, x_callv, x_calls, s_callv, s_calls, j_recv, j_ret, j_retv, b_cmp, b_and, b_or, b_not, b_ofi, b_ite, b_true, s_skip, s_set, j_ty, j_lset, j_kill, s_inc, s_fput, j_fput, s_fop, s_aput, j_aput, j_nar, s_aop, s_ret, s_retv, s_go, s_pop, x_linc, x_finc, Value.category, if_icmp.holds, List.flatMap_cons, List.flatMap_nil, List.length_cons, List.length_append, List.length_nil, List.set_cons_succ, List.set_cons_zero, List.getElem?_cons_succ, List.getElem?_cons_zero, List.replicate, ite_and', ite_or', ite_int', nI_leI, nI_ltI, nI_eq, nI_add, nI_1, pk_mul, nI_clamp, n_in', nI_pos', nI_pos, n_m1e, n_01, n_10, sT_98, sT_99, sT_100, sT_101, sT_102, sT_103, sT_104, sT_105, sT_106, sT_107, sT_108, sT_109, sT_110, sT_111, sT_112, sT_113, sT_114, sT_115, sT_116, sT_117, sT_118, sT_119, sT_120, sT_121, sT_122, sT_123, sT_124, sT_125, sT_126, sT_127, sT_128, sT_129, sT_130, sT_131, sT_132, sT_133, sT_134, sT_135, sT_136, sT_137, sT_138, sT_139, sT_140, sR_98_1, sR_98_4, sR_98_5, sR_98_6, sR_98_7, sR_98_8, sR_98_9, sR_98_10, sR_98_12, sR_98_13, sR_98_14, sR_98_15, sR_98_16, sR_98_17, sR_98_18, sR_98_19, sR_98_20, sR_98_21, sR_98_22, sR_98_23, sR_98_24, sR_98_25, sR_98_26, sR_98_27, sR_98_28, sR_98_29, sR_98_31, sR_98_34, sR_98_35, sR_98_36, sR_98_42, sR_98_44, sR_98_45, sR_98_47, sR_98_49, sR_98_51, sR_98_56, sR_98_58, sR_98_62, sR_98_65, sR_98_66, sR_98_69, e3, hI_setI, hI_setJ, hI_setR, hJ_setI, hJ_setJ, hJ_setR, hR_setI, hR_setJ, hR_setR, hT_setI, hT_setJ, hT_setR, hN_setI, hN_setJ, hN_setR, hS_setI, hS_setJ, hS_setR, hh4, vOI, m3_neg, vG2]
  | some S =>
    have hS := hlt0 S rfl
    cases o2 with
    | none =>
      refine ⟨h4, ?_, gn_fin r m4 rr4 ro4⟩
      simp (disch := first | assumption | omega) [gnT, j_meth, j_out, j_rok, j_pad, lg_sl, s_seq_w, isN_inl, isN_inr, s_if, jb, x_c, x_iloc, x_aloc, x_lloc, x_bin, x_un, o_add, o_sub, o_mul, o_and, o_or, o_xor, o_shl, o_shr, o_ushr, o_max, o_min, o_i2b, o_i2c, o_i2l, o_l2i, x_fld, j_fget, x_idx, j_aget, x_len, j_alen, x_ofb, x_ite, xs_nil, xs_cons, x_callv, x_calls, s_callv, s_calls, j_recv, j_ret, j_retv, b_cmp, b_and, b_or, b_not, b_ofi, b_ite, b_true, s_skip, s_set, j_ty, j_lset, j_kill, s_inc, s_fput, j_fput, s_fop, s_aput, j_aput, j_nar, s_aop, s_ret, s_retv, s_go, s_pop, x_linc, x_finc, Value.category, if_icmp.holds, List.flatMap_cons, List.flatMap_nil, List.length_cons, List.length_append, List.length_nil, List.set_cons_succ, List.set_cons_zero, List.getElem?_cons_succ, List.getElem?_cons_zero, List.replicate, ite_and', ite_or', ite_int', nI_leI, nI_ltI, nI_eq, nI_add, nI_1, pk_mul, nI_clamp, n_in', nI_pos', nI_pos, n_m1e, n_01, n_10, sT_98, sT_99, sT_100, sT_101, sT_102, sT_103, sT_104, sT_105, sT_106, sT_107, sT_108, sT_109, sT_110, sT_111, sT_112, sT_113, sT_114, sT_115, sT_116, sT_117, sT_118, sT_119, sT_120, sT_121, sT_122, sT_123, sT_124, sT_125, sT_126, sT_127, sT_128, sT_129, sT_130, sT_131, sT_132, sT_133, sT_134, sT_135, sT_136, sT_137, sT_138, sT_139, sT_140, sR_98_1, sR_98_4, sR_98_5, sR_98_6, sR_98_7, sR_98_8, sR_98_9, sR_98_10, sR_98_12, sR_98_13, sR_98_14, sR_98_15, sR_98_16, sR_98_17, sR_98_18, sR_98_19, sR_98_20, sR_98_21, sR_98_22, sR_98_23, sR_98_24, sR_98_25, sR_98_26, sR_98_27, sR_98_28, sR_98_29, sR_98_31, sR_98_34, sR_98_35, sR_98_36, sR_98_42, sR_98_44, sR_98_45, sR_98_47, sR_98_49, sR_98_51, sR_98_56, sR_98_58, sR_98_62, sR_98_65, sR_98_66, sR_98_69, e3, hI_setI, hI_setJ, hI_setR, hJ_setI, hJ_setJ, hJ_setR, hR_setI, hR_setJ, hR_setR, hT_setI, hT_setJ, hT_setR, hN_setI, hN_setJ, hN_setR, hS_setI, hS_setJ, hS_setR, hh4, vOI, m3_neg, vG2]
    | some T =>
      have hT := hT3 T rfl
      obtain ⟨v6, e5⟩ := e_gone_1 m4.2.1 (S := S) (T := T) (by omega) (by omega) (.int x) (.int y)
      have hml := sMov_lt w S T
      have mm : MW Wop A h4 h4 := MW_refl m4.2.1 m4.2.2
      obtain ⟨h6, h7, e6, e7, m7, r7, hs6, hs4', f6⟩ := e_tell2 mm (nI T) (nI (sMov A S T))
      have m7' := MW_trans m4 (MW_mono m7 Wop_gn)
      have f7 : hI h7 98 57 = hI h4 98 57 ∧ hI h7 98 60 = hI h4 98 60 ∧ hI h7 98 61 = hI h4 98 61 := ⟨Fr_I m7.1 (by unfold Wop; omega), Fr_I m7.1 (by unfold Wop; omega), Fr_I m7.1 (by unfold Wop; omega)⟩
      have ro7 : ROf none none none h7 := ROf0_eq ro4 (fun k hk => by rcases hk with rfl | rfl | rfl; exact f7.1; exact f7.2.1; exact f7.2.2)
      have em := e_M_many h7 (x := sMov A S T) (by omega)
      refine ⟨h7, ?_, gn_fin r m7' r7 ro7⟩
      have hh1 : hSetI h4 98 32 0 = hSetI h4 98 32 (nI 0) := by rw [nI_0]
      simp only [nI_0] at e5
      generalize hSetI h4 98 32 (nI 0) = h4' at *
      simp (disch := first | assumption | omega) [gnT, j_meth, j_out, j_rok, j_pad, lg_sl, s_seq_w, isN_inl, isN_inr, s_if, jb, x_c, x_iloc, x_aloc, x_lloc, x_bin, x_un, o_add, o_sub, o_mul, o_and, o_or, o_xor, o_shl, o_shr, o_ushr, o_max, o_min, o_i2b, o_i2c, o_i2l, o_l2i, x_fld, j_fget, x_idx, j_aget, x_len, j_alen, x_ofb, x_ite, xs_nil, xs_cons, x_callv, x_calls, s_callv, s_calls, j_recv, j_ret, j_retv, b_cmp, b_and, b_or, b_not, b_ofi, b_ite, b_true, s_skip, s_set, j_ty, j_lset, j_kill, s_inc, s_fput, j_fput, s_fop, s_aput, j_aput, j_nar, s_aop, s_ret, s_retv, s_go, s_pop, x_linc, x_finc, Value.category, if_icmp.holds, List.flatMap_cons, List.flatMap_nil, List.length_cons, List.length_append, List.length_nil, List.set_cons_succ, List.set_cons_zero, List.getElem?_cons_succ, List.getElem?_cons_zero, List.replicate, ite_and', ite_or', ite_int', nI_leI, nI_ltI, nI_eq, nI_add, nI_1, pk_mul, nI_clamp, n_in', nI_pos', nI_pos, n_m1e, n_01, n_10, sT_98, sT_99, sT_100, sT_101, sT_102, sT_103, sT_104, sT_105, sT_106, sT_107, sT_108, sT_109, sT_110, sT_111, sT_112, sT_113, sT_114, sT_115, sT_116, sT_117, sT_118, sT_119, sT_120, sT_121, sT_122, sT_123, sT_124, sT_125, sT_126, sT_127, sT_128, sT_129, sT_130, sT_131, sT_132, sT_133, sT_134, sT_135, sT_136, sT_137, sT_138, sT_139, sT_140, sR_98_1, sR_98_4, sR_98_5, sR_98_6, sR_98_7, sR_98_8, sR_98_9, sR_98_10, sR_98_12, sR_98_13, sR_98_14, sR_98_15, sR_98_16, sR_98_17, sR_98_18, sR_98_19, sR_98_20, sR_98_21, sR_98_22, sR_98_23, sR_98_24, sR_98_25, sR_98_26, sR_98_27, sR_98_28, sR_98_29, sR_98_31, sR_98_34, sR_98_35, sR_98_36, sR_98_42, sR_98_44, sR_98_45, sR_98_47, sR_98_49, sR_98_51, sR_98_56, sR_98_58, sR_98_62, sR_98_65, sR_98_66, sR_98_69, e3, hI_setI, hI_setJ, hI_setR, hJ_setI, hJ_setJ, hJ_setR, hR_setI, hR_setJ, hR_setR, hT_setI, hT_setJ, hT_setR, hN_setI, hN_setJ, hN_setR, hS_setI, hS_setJ, hS_setR, hh4, vOI, nI_0, e5, hh1, e6, e7, em, vG2]
theorem o_M_gone {A : AS} {tx : List Nat} {rw : List Int32} {h : jHp} (r : RMX A tx rw h) (x y : Int32) : ∃ h', f_M_gone [.ref 98, .int x, .int y] h = some (some (.int (vGone A rw x y).1), h') ∧ RMX A tx (vGone A rw x y).2 h' ∧ Fr WM h h' := by
  have hs := r.1.1
  have w := r.1.2.1
  have hn := w.1.1
  have h20 := w.2.2.1.1
  have r0 := RMX_33 r (nI 0)
  have m0 := op_33 r
  have hs0 := r0.1.1
  have ep := e_M_isPerson hs0 w r0.1.2.2.1 y
  have eb := e_M_isBond hs0 w r0.1.2.2.2.1 y
  generalize hh0 : hSetI h 98 33 (nI 0) = h0 at *
  have hh0' : hSetI h 98 33 0 = h0 := by rw [← hh0, nI_0]
  have ei := e_M_in h0 x (nI 0) (nI 1)
  obtain ⟨h1, e1, m1, -, -, hlt1⟩ := e_M_outcome r0.1 r0.2.1 (LOk0 A) r0.2.2.2.2
  have m1' := MW_trans m0 (MW_mono m1 Wof_op)
  have rr1 := RRw_mw r0.2.2.2.1 m1 Wof_rw
  have ro1 := ROf_fr r0.2.2.2.2 m1.1 (by unfold Wof Wmk; intro a k; omega)
  have hs1 := m1.2.1.1
  have hl0 : ∀ v, sOuV A none none none = some v → v < 2 ^ 20 := fun v hv => sOuV_lt hlt1 hv
  have bad : goneA x y A = none → (∃ h', f_M_gone [.ref 98, .int x, .int y] h = some (some (.int (vGone A rw x y).1), h') ∧ RMX A tx (vGone A rw x y).2 h' ∧ Fr WM h h') := by
    intro hg
    unfold vGone
    rw [hg]
    refine ⟨h0, ?_, op_fin r m0 r0.2.2.2.1⟩
    unfold goneA at hg
    by_cases hx : x = nI 0 ∨ x = nI 1
    · rw [if_pos ((in01 x).mpr hx)] at ei
      simp only [nI_0] at ei
      rcases hx with rfl | rfl
      · have hp : ¬ j_in y (aNp A) = true := fun q => by simp [q] at hg
        rw [if_neg hp] at ep
        simp only [nI_0] at ei
        simp (disch := first | assumption | omega) [f_M_gone, gn_body, j_meth, j_out, j_rok, j_pad, lg_sl, s_seq_w, isN_inl, isN_inr, s_if, jb, x_c, x_iloc, x_aloc, x_lloc, x_bin, x_un, o_add, o_sub, o_mul, o_and, o_or, o_xor, o_shl, o_shr, o_ushr, o_max, o_min, o_i2b, o_i2c, o_i2l, o_l2i, x_fld, j_fget, x_idx, j_aget, x_len, j_alen, x_ofb, x_ite, xs_nil, xs_cons, x_callv, x_calls, s_callv, s_calls, j_recv, j_ret, j_retv, b_cmp, b_and, b_or, b_not, b_ofi, b_ite, b_true, s_skip, s_set, j_ty, j_lset, j_kill, s_inc, s_fput, j_fput, s_fop, s_aput, j_aput, j_nar, s_aop, s_ret, s_retv, s_go, s_pop, x_linc, x_finc, Value.category, if_icmp.holds, List.flatMap_cons, List.flatMap_nil, List.length_cons, List.length_append, List.length_nil, List.set_cons_succ, List.set_cons_zero, List.getElem?_cons_succ, List.getElem?_cons_zero, List.replicate, ite_and', ite_or', ite_int', nI_leI, nI_ltI, nI_eq, nI_add, nI_1, pk_mul, nI_clamp, n_in', nI_pos', nI_pos, n_m1e, n_01, n_10, sT_98, sT_99, sT_100, sT_101, sT_102, sT_103, sT_104, sT_105, sT_106, sT_107, sT_108, sT_109, sT_110, sT_111, sT_112, sT_113, sT_114, sT_115, sT_116, sT_117, sT_118, sT_119, sT_120, sT_121, sT_122, sT_123, sT_124, sT_125, sT_126, sT_127, sT_128, sT_129, sT_130, sT_131, sT_132, sT_133, sT_134, sT_135, sT_136, sT_137, sT_138, sT_139, sT_140, sR_98_1, sR_98_4, sR_98_5, sR_98_6, sR_98_7, sR_98_8, sR_98_9, sR_98_10, sR_98_12, sR_98_13, sR_98_14, sR_98_15, sR_98_16, sR_98_17, sR_98_18, sR_98_19, sR_98_20, sR_98_21, sR_98_22, sR_98_23, sR_98_24, sR_98_25, sR_98_26, sR_98_27, sR_98_28, sR_98_29, sR_98_31, sR_98_34, sR_98_35, sR_98_36, sR_98_42, sR_98_44, sR_98_45, sR_98_47, sR_98_49, sR_98_51, sR_98_56, sR_98_58, sR_98_62, sR_98_65, sR_98_66, sR_98_69, nI_0, hh0', ei, ep, b_ite]
      · have hn10 : ¬ nI 1 = nI 0 := by decide
        have hp : ¬ j_in y (aNb A) = true := fun q => by simp [q, hn10] at hg
        rw [if_neg hp] at eb
        simp (disch := first | assumption | omega) [f_M_gone, gn_body, j_meth, j_out, j_rok, j_pad, lg_sl, s_seq_w, isN_inl, isN_inr, s_if, jb, x_c, x_iloc, x_aloc, x_lloc, x_bin, x_un, o_add, o_sub, o_mul, o_and, o_or, o_xor, o_shl, o_shr, o_ushr, o_max, o_min, o_i2b, o_i2c, o_i2l, o_l2i, x_fld, j_fget, x_idx, j_aget, x_len, j_alen, x_ofb, x_ite, xs_nil, xs_cons, x_callv, x_calls, s_callv, s_calls, j_recv, j_ret, j_retv, b_cmp, b_and, b_or, b_not, b_ofi, b_ite, b_true, s_skip, s_set, j_ty, j_lset, j_kill, s_inc, s_fput, j_fput, s_fop, s_aput, j_aput, j_nar, s_aop, s_ret, s_retv, s_go, s_pop, x_linc, x_finc, Value.category, if_icmp.holds, List.flatMap_cons, List.flatMap_nil, List.length_cons, List.length_append, List.length_nil, List.set_cons_succ, List.set_cons_zero, List.getElem?_cons_succ, List.getElem?_cons_zero, List.replicate, ite_and', ite_or', ite_int', nI_leI, nI_ltI, nI_eq, nI_add, nI_1, pk_mul, nI_clamp, n_in', nI_pos', nI_pos, n_m1e, n_01, n_10, sT_98, sT_99, sT_100, sT_101, sT_102, sT_103, sT_104, sT_105, sT_106, sT_107, sT_108, sT_109, sT_110, sT_111, sT_112, sT_113, sT_114, sT_115, sT_116, sT_117, sT_118, sT_119, sT_120, sT_121, sT_122, sT_123, sT_124, sT_125, sT_126, sT_127, sT_128, sT_129, sT_130, sT_131, sT_132, sT_133, sT_134, sT_135, sT_136, sT_137, sT_138, sT_139, sT_140, sR_98_1, sR_98_4, sR_98_5, sR_98_6, sR_98_7, sR_98_8, sR_98_9, sR_98_10, sR_98_12, sR_98_13, sR_98_14, sR_98_15, sR_98_16, sR_98_17, sR_98_18, sR_98_19, sR_98_20, sR_98_21, sR_98_22, sR_98_23, sR_98_24, sR_98_25, sR_98_26, sR_98_27, sR_98_28, sR_98_29, sR_98_31, sR_98_34, sR_98_35, sR_98_36, sR_98_42, sR_98_44, sR_98_45, sR_98_47, sR_98_49, sR_98_51, sR_98_56, sR_98_58, sR_98_62, sR_98_65, sR_98_66, sR_98_69, nI_0, hh0', ei, eb, b_ite]
    · rw [if_neg (fun q => hx ((in01 x).mp q))] at ei
      simp only [nI_0] at ei
      simp (disch := first | assumption | omega) [f_M_gone, gn_body, j_meth, j_out, j_rok, j_pad, lg_sl, s_seq_w, isN_inl, isN_inr, s_if, jb, x_c, x_iloc, x_aloc, x_lloc, x_bin, x_un, o_add, o_sub, o_mul, o_and, o_or, o_xor, o_shl, o_shr, o_ushr, o_max, o_min, o_i2b, o_i2c, o_i2l, o_l2i, x_fld, j_fget, x_idx, j_aget, x_len, j_alen, x_ofb, x_ite, xs_nil, xs_cons, x_callv, x_calls, s_callv, s_calls, j_recv, j_ret, j_retv, b_cmp, b_and, b_or, b_not, b_ofi, b_ite, b_true, s_skip, s_set, j_ty, j_lset, j_kill, s_inc, s_fput, j_fput, s_fop, s_aput, j_aput, j_nar, s_aop, s_ret, s_retv, s_go, s_pop, x_linc, x_finc, Value.category, if_icmp.holds, List.flatMap_cons, List.flatMap_nil, List.length_cons, List.length_append, List.length_nil, List.set_cons_succ, List.set_cons_zero, List.getElem?_cons_succ, List.getElem?_cons_zero, List.replicate, ite_and', ite_or', ite_int', nI_leI, nI_ltI, nI_eq, nI_add, nI_1, pk_mul, nI_clamp, n_in', nI_pos', nI_pos, n_m1e, n_01, n_10, sT_98, sT_99, sT_100, sT_101, sT_102, sT_103, sT_104, sT_105, sT_106, sT_107, sT_108, sT_109, sT_110, sT_111, sT_112, sT_113, sT_114, sT_115, sT_116, sT_117, sT_118, sT_119, sT_120, sT_121, sT_122, sT_123, sT_124, sT_125, sT_126, sT_127, sT_128, sT_129, sT_130, sT_131, sT_132, sT_133, sT_134, sT_135, sT_136, sT_137, sT_138, sT_139, sT_140, sR_98_1, sR_98_4, sR_98_5, sR_98_6, sR_98_7, sR_98_8, sR_98_9, sR_98_10, sR_98_12, sR_98_13, sR_98_14, sR_98_15, sR_98_16, sR_98_17, sR_98_18, sR_98_19, sR_98_20, sR_98_21, sR_98_22, sR_98_23, sR_98_24, sR_98_25, sR_98_26, sR_98_27, sR_98_28, sR_98_29, sR_98_31, sR_98_34, sR_98_35, sR_98_36, sR_98_42, sR_98_44, sR_98_45, sR_98_47, sR_98_49, sR_98_51, sR_98_56, sR_98_58, sR_98_62, sR_98_65, sR_98_66, sR_98_69, nI_0, hh0', ei]
  cases hg : goneA x y A with
  | none => exact bad hg
  | some q =>
    unfold vGone
    rw [hg]
    unfold goneA at hg
    by_cases c1 : x = nI 0 ∧ j_in y (aNp A) = true
    · rw [if_pos c1] at hg
      cases hg
      obtain ⟨rfl, hy⟩ := c1
      rw [if_pos hy] at ep
      obtain ⟨p, hp, rfl⟩ := j_in_ex hy (by omega)
      rw [nI_clamp (show p < 2 ^ 31 by omega)]
      rw [if_pos (by decide)] at ei
      have f2 : Fr (fun a k => a = 98 ∧ k = 60) h1 (hSetI h1 98 60 (nI p)) := Fr_set _ ⟨rfl, rfl⟩
      have m2 : MW Wgn A h (hSetI h1 98 60 (nI p)) := MW_step (MW_mono m1' Wop_gn) f2 (by intro a k hv; unfold Wgn Wop cM; omega)
      have rr2 : RRw rw (hSetI h1 98 60 (nI p)) := RRw_eq rr1 (Fr_I f2 (by omega)) (fun k => Fr_I f2 (by omega))
      have lo : LOk A none (some p) none := ⟨fun q h => (by cases h), fun q h => (by cases h; omega), fun q h => by cases h⟩
      have ro2 : ROf none (some p) none (hSetI h1 98 60 (nI p)) := ⟨by rw [Fr_I f2 (by omega)]; exact ro1.1, fun q hq => (by cases hq), by rw [hI_setI, if_pos ⟨rfl, rfl⟩]; rfl, by rw [Fr_I f2 (by omega)]; exact ro1.2.2.2⟩
      obtain ⟨h', g1, g2, g3⟩ := e_gone_t (h1 := h1) r m2 rr2 (x := nI 0) (y := nI p) lo ro2 hl0 (Fr_mono f2 (by unfold Wgn; intro a k; omega))
      refine ⟨h', ?_, ?_, g3⟩
      · simp only
        rw [← g1]
        simp only [nI_0] at ei
        generalize sOuV A none none none = o1 at *
        simp (disch := first | assumption | omega) [f_M_gone, gn_body, j_meth, j_out, j_rok, j_pad, lg_sl, s_seq_w, isN_inl, isN_inr, s_if, jb, x_c, x_iloc, x_aloc, x_lloc, x_bin, x_un, o_add, o_sub, o_mul, o_and, o_or, o_xor, o_shl, o_shr, o_ushr, o_max, o_min, o_i2b, o_i2c, o_i2l, o_l2i, x_fld, j_fget, x_idx, j_aget, x_len, j_alen, x_ofb, x_ite, xs_nil, xs_cons, x_callv, x_calls, s_callv, s_calls, j_recv, j_ret, j_retv, b_cmp, b_and, b_or, b_not, b_ofi, b_ite, b_true, s_skip, s_set, j_ty, j_lset, j_kill, s_inc, s_fput, j_fput, s_fop, s_aput, j_aput, j_nar, s_aop, s_ret, s_retv, s_go, s_pop, x_linc, x_finc, Value.category, if_icmp.holds, List.flatMap_cons, List.flatMap_nil, List.length_cons, List.length_append, List.length_nil, List.set_cons_succ, List.set_cons_zero, List.getElem?_cons_succ, List.getElem?_cons_zero, List.replicate, ite_and', ite_or', ite_int', nI_leI, nI_ltI, nI_eq, nI_add, nI_1, pk_mul, nI_clamp, n_in', nI_pos', nI_pos, n_m1e, n_01, n_10, sT_98, sT_99, sT_100, sT_101, sT_102, sT_103, sT_104, sT_105, sT_106, sT_107, sT_108, sT_109, sT_110, sT_111, sT_112, sT_113, sT_114, sT_115, sT_116, sT_117, sT_118, sT_119, sT_120, sT_121, sT_122, sT_123, sT_124, sT_125, sT_126, sT_127, sT_128, sT_129, sT_130, sT_131, sT_132, sT_133, sT_134, sT_135, sT_136, sT_137, sT_138, sT_139, sT_140, sR_98_1, sR_98_4, sR_98_5, sR_98_6, sR_98_7, sR_98_8, sR_98_9, sR_98_10, sR_98_12, sR_98_13, sR_98_14, sR_98_15, sR_98_16, sR_98_17, sR_98_18, sR_98_19, sR_98_20, sR_98_21, sR_98_22, sR_98_23, sR_98_24, sR_98_25, sR_98_26, sR_98_27, sR_98_28, sR_98_29, sR_98_31, sR_98_34, sR_98_35, sR_98_36, sR_98_42, sR_98_44, sR_98_45, sR_98_47, sR_98_49, sR_98_51, sR_98_56, sR_98_58, sR_98_62, sR_98_65, sR_98_66, sR_98_69, nI_0, hh0', ei, ep, b_ite, e1]
      · exact g2
    · rw [if_neg c1] at hg
      by_cases c2 : x = nI 1 ∧ j_in y (aNb A) = true
      case neg => rw [if_neg c2] at hg; cases hg
      rw [if_pos c2] at hg
      cases hg
      obtain ⟨rfl, hy⟩ := c2
      rw [if_pos hy] at eb
      obtain ⟨p, hp, rfl⟩ := j_in_ex hy (by omega)
      rw [nI_clamp (show p < 2 ^ 31 by omega)]
      rw [if_pos (by decide)] at ei
      have f2 : Fr (fun a k => a = 98 ∧ k = 61) h1 (hSetI h1 98 61 (nI p)) := Fr_set _ ⟨rfl, rfl⟩
      have m2 : MW Wgn A h (hSetI h1 98 61 (nI p)) := MW_step (MW_mono m1' Wop_gn) f2 (by intro a k hv; unfold Wgn Wop cM; omega)
      have rr2 : RRw rw (hSetI h1 98 61 (nI p)) := RRw_eq rr1 (Fr_I f2 (by omega)) (fun k => Fr_I f2 (by omega))
      have lo : LOk A none none (some p) := ⟨fun q h => (by cases h), fun q h => (by cases h), fun q h => by cases h; omega⟩
      have ro2 : ROf none none (some p) (hSetI h1 98 61 (nI p)) := ⟨by rw [Fr_I f2 (by omega)]; exact ro1.1, fun q hq => (by cases hq), by rw [Fr_I f2 (by omega)]; exact ro1.2.2.1, by rw [hI_setI, if_pos ⟨rfl, rfl⟩]; rfl⟩
      obtain ⟨h', g1, g2, g3⟩ := e_gone_t (h1 := h1) r m2 rr2 (x := nI 1) (y := nI p) lo ro2 hl0 (Fr_mono f2 (by unfold Wgn; intro a k; omega))
      refine ⟨h', ?_, ?_, g3⟩
      · simp only
        rw [← g1]
        simp only [nI_0] at ei
        generalize sOuV A none none none = o1 at *
        simp (disch := first | assumption | omega) [f_M_gone, gn_body, j_meth, j_out, j_rok, j_pad, lg_sl, s_seq_w, isN_inl, isN_inr, s_if, jb, x_c, x_iloc, x_aloc, x_lloc, x_bin, x_un, o_add, o_sub, o_mul, o_and, o_or, o_xor, o_shl, o_shr, o_ushr, o_max, o_min, o_i2b, o_i2c, o_i2l, o_l2i, x_fld, j_fget, x_idx, j_aget, x_len, j_alen, x_ofb, x_ite, xs_nil, xs_cons, x_callv, x_calls, s_callv, s_calls, j_recv, j_ret, j_retv, b_cmp, b_and, b_or, b_not, b_ofi, b_ite, b_true, s_skip, s_set, j_ty, j_lset, j_kill, s_inc, s_fput, j_fput, s_fop, s_aput, j_aput, j_nar, s_aop, s_ret, s_retv, s_go, s_pop, x_linc, x_finc, Value.category, if_icmp.holds, List.flatMap_cons, List.flatMap_nil, List.length_cons, List.length_append, List.length_nil, List.set_cons_succ, List.set_cons_zero, List.getElem?_cons_succ, List.getElem?_cons_zero, List.replicate, ite_and', ite_or', ite_int', nI_leI, nI_ltI, nI_eq, nI_add, nI_1, pk_mul, nI_clamp, n_in', nI_pos', nI_pos, n_m1e, n_01, n_10, sT_98, sT_99, sT_100, sT_101, sT_102, sT_103, sT_104, sT_105, sT_106, sT_107, sT_108, sT_109, sT_110, sT_111, sT_112, sT_113, sT_114, sT_115, sT_116, sT_117, sT_118, sT_119, sT_120, sT_121, sT_122, sT_123, sT_124, sT_125, sT_126, sT_127, sT_128, sT_129, sT_130, sT_131, sT_132, sT_133, sT_134, sT_135, sT_136, sT_137, sT_138, sT_139, sT_140, sR_98_1, sR_98_4, sR_98_5, sR_98_6, sR_98_7, sR_98_8, sR_98_9, sR_98_10, sR_98_12, sR_98_13, sR_98_14, sR_98_15, sR_98_16, sR_98_17, sR_98_18, sR_98_19, sR_98_20, sR_98_21, sR_98_22, sR_98_23, sR_98_24, sR_98_25, sR_98_26, sR_98_27, sR_98_28, sR_98_29, sR_98_31, sR_98_34, sR_98_35, sR_98_36, sR_98_42, sR_98_44, sR_98_45, sR_98_47, sR_98_49, sR_98_51, sR_98_56, sR_98_58, sR_98_62, sR_98_65, sR_98_66, sR_98_69, nI_0, hh0', ei, eb, b_ite, e1]
      · exact g2
