def sPlcs (A : AS) : Option (Nat × List Nat) := match fst1 (fun n => (shF (aNo A) A 0 n).isSome) 4 with
  | some n => some (n, (shF (aNo A) A 0 n).getD [])
  | none => none
def vPlaces (A : AS) (rw : List Int32) : Int32 × List Int32 := match sPlcs A with
  | some q => (nI q.1, q.2.map nI)
  | none => (-2, rw)
def WopP (a k : Nat) : Prop := Wop a k
theorem o_M_places {A : AS} {tx : List Nat} {rw : List Int32} {h : jHp} (r : RMX A tx rw h) : ∃ h', f_M_places [.ref 98] h = some (some (.int (vPlaces A rw).1), h') ∧ RMX A tx (vPlaces A rw).2 h' ∧ Fr WM h h' := by
  have hs := r.1.1
  have w := r.1.2.1
  have hno := w.2.1
  have r0 := RMX_33 r (nI 0)
  have m0 := op_33 r
  have hs0 := r0.1.1
  generalize hh0 : hSetI h 98 33 (nI 0) = h0 at *
  have hL := loop_wp (lb := 1) (lc := 2) (c := lc_M_places_1) (b := lb_M_places_1) (u := lu_M_places_1) 4
    (fun i st => ∃ h' v2 v3, st = ([.ref 98, .int (nI i), v2, v3], h') ∧ MW Wop A h h' ∧ RRw rw h' ∧ ∀ u, u < i → (shF (aNo A) A 0 u).isSome = false)
    (fun r => ∃ h' L, MW Wop A h h' ∧ RRw (vPlaces A rw).2 h' ∧ ((r = (.inr (some (.int (vPlaces A rw).1)), (L, h'))) ∨ (r = (.inl 0, (L, h')) ∧ (vPlaces A rw).1 = -2)))
    ?_ ?_ ([.ref 98, .int (nI 0), .null, .null], h0) ⟨h0, .null, .null, rfl, m0, r0.2.2.2.1, fun u hu => by cases hu⟩
  · obtain ⟨q, e, h', L, m', rr', rfl | ⟨rfl, hv⟩⟩ := hL
    · refine ⟨h', ?_, op_fin r m' rr'⟩
      simp (disch := first | assumption | omega) [f_M_places, body_M_places, j_meth, j_out, j_rok, j_pad, lg_sl, s_seq_w, isN_inl, isN_inr, s_if, jb, x_c, x_iloc, x_aloc, x_lloc, x_bin, x_un, o_add, o_sub, o_mul, o_and, o_or, o_xor, o_shl, o_shr, o_ushr, o_max, o_min, o_i2b, o_i2c, o_i2l, o_l2i, x_fld, j_fget, x_idx, j_aget, x_len, j_alen, x_ofb, x_ite, xs_nil, xs_cons, x_callv, x_calls, s_callv, s_calls, j_recv, j_ret, j_retv, b_cmp, b_and, b_or, b_not, b_ofi, b_ite, b_true, s_skip, s_set, j_ty, j_lset, j_kill, s_inc, s_fput, j_fput, s_fop, s_aput, j_aput, j_nar, s_aop, s_ret, s_retv, s_go, s_pop, x_linc, x_finc, Value.category, if_icmp.holds, List.flatMap_cons, List.flatMap_nil, List.length_cons, List.length_append, List.length_nil, List.set_cons_succ, List.set_cons_zero, List.getElem?_cons_succ, List.getElem?_cons_zero, List.replicate, ite_and', ite_or', ite_int', nI_leI, nI_ltI, nI_eq, nI_add, nI_1, pk_mul, nI_clamp, n_in', nI_pos', nI_pos, n_m1e, n_01, n_10, sT_98, sT_99, sT_100, sT_101, sT_102, sT_103, sT_104, sT_105, sT_106, sT_107, sT_108, sT_109, sT_110, sT_111, sT_112, sT_113, sT_114, sT_115, sT_116, sT_117, sT_118, sT_119, sT_120, sT_121, sT_122, sT_123, sT_124, sT_125, sT_126, sT_127, sT_128, sT_129, sT_130, sT_131, sT_132, sT_133, sT_134, sT_135, sT_136, sT_137, sT_138, sT_139, sT_140, sR_98_1, sR_98_4, sR_98_5, sR_98_6, sR_98_7, sR_98_8, sR_98_9, sR_98_10, sR_98_12, sR_98_13, sR_98_14, sR_98_15, sR_98_16, sR_98_17, sR_98_18, sR_98_19, sR_98_20, sR_98_21, sR_98_22, sR_98_23, sR_98_24, sR_98_25, sR_98_26, sR_98_27, sR_98_28, sR_98_29, sR_98_31, sR_98_34, sR_98_35, sR_98_36, sR_98_42, sR_98_44, sR_98_45, sR_98_47, sR_98_49, sR_98_51, sR_98_56, sR_98_58, sR_98_62, sR_98_65, sR_98_66, sR_98_69, hh0, e]
    · refine ⟨h', ?_, op_fin r m' rr'⟩
      rw [hv]
      simp (disch := first | assumption | omega) [f_M_places, body_M_places, j_meth, j_out, j_rok, j_pad, lg_sl, s_seq_w, isN_inl, isN_inr, s_if, jb, x_c, x_iloc, x_aloc, x_lloc, x_bin, x_un, o_add, o_sub, o_mul, o_and, o_or, o_xor, o_shl, o_shr, o_ushr, o_max, o_min, o_i2b, o_i2c, o_i2l, o_l2i, x_fld, j_fget, x_idx, j_aget, x_len, j_alen, x_ofb, x_ite, xs_nil, xs_cons, x_callv, x_calls, s_callv, s_calls, j_recv, j_ret, j_retv, b_cmp, b_and, b_or, b_not, b_ofi, b_ite, b_true, s_skip, s_set, j_ty, j_lset, j_kill, s_inc, s_fput, j_fput, s_fop, s_aput, j_aput, j_nar, s_aop, s_ret, s_retv, s_go, s_pop, x_linc, x_finc, Value.category, if_icmp.holds, List.flatMap_cons, List.flatMap_nil, List.length_cons, List.length_append, List.length_nil, List.set_cons_succ, List.set_cons_zero, List.getElem?_cons_succ, List.getElem?_cons_zero, List.replicate, ite_and', ite_or', ite_int', nI_leI, nI_ltI, nI_eq, nI_add, nI_1, pk_mul, nI_clamp, n_in', nI_pos', nI_pos, n_m1e, n_01, n_10, sT_98, sT_99, sT_100, sT_101, sT_102, sT_103, sT_104, sT_105, sT_106, sT_107, sT_108, sT_109, sT_110, sT_111, sT_112, sT_113, sT_114, sT_115, sT_116, sT_117, sT_118, sT_119, sT_120, sT_121, sT_122, sT_123, sT_124, sT_125, sT_126, sT_127, sT_128, sT_129, sT_130, sT_131, sT_132, sT_133, sT_134, sT_135, sT_136, sT_137, sT_138, sT_139, sT_140, sR_98_1, sR_98_4, sR_98_5, sR_98_6, sR_98_7, sR_98_8, sR_98_9, sR_98_10, sR_98_12, sR_98_13, sR_98_14, sR_98_15, sR_98_16, sR_98_17, sR_98_18, sR_98_19, sR_98_20, sR_98_21, sR_98_22, sR_98_23, sR_98_24, sR_98_25, sR_98_26, sR_98_27, sR_98_28, sR_98_29, sR_98_31, sR_98_34, sR_98_35, sR_98_36, sR_98_42, sR_98_44, sR_98_45, sR_98_47, sR_98_49, sR_98_51, sR_98_56, sR_98_58, sR_98_62, sR_98_65, sR_98_66, sR_98_69, hh0, e]
  · rintro i st hi ⟨h1, v2, v3, rfl, m1, rr1, hall⟩
    have k1 := m1.2.1
    have hs1 := k1.1
    obtain ⟨h2, e2, f2, g2⟩ := e_M_share (aNo A) 8 (by omega) A 0 i h1 (by omega) (by omega) k1
    have k2 := RMK_fr k1 f2 (Wsh_cM 0)
    have hs2 := k2.1
    have f3 : Fr (fun a k => a = 98 ∧ k = 37) h2 (hSetI h2 98 37 (nI 0)) := Fr_set _ ⟨rfl, rfl⟩
    have k3 := RMK_fr k2 f3 (by unfold cM; intro a k; omega)
    have t3 : RMT A (hSetI h2 98 37 (nI 0)) := Or.inl (by rw [hI_setI, if_pos ⟨rfl, rfl⟩]; rfl)
    have m3 : MW Wop A h (hSetI h2 98 37 (nI 0)) := ⟨Fr_trans m1.1 (Fr_trans (Fr_mono f2 (by unfold Wsh Wgt Wjd Wmk Wop; intro a k; omega)) (Fr_mono f3 (by unfold Wop; intro a k; omega))), k3, t3⟩
    have rr3 : RRw rw (hSetI h2 98 37 (nI 0)) := RRw_eq rr1 (by rw [Fr_I f3 (by omega), Fr_I f2 (by unfold Wsh Wgt Wjd Wmk; omega)]) (fun k => by rw [Fr_I f3 (by omega), Fr_I f2 (by unfold Wsh Wgt Wjd Wmk; omega)])
    have hs3 := k3.1
    have g140 : ∀ l, shF (aNo A) A 0 i = some l → ∀ k, k < l.length → hI (hSetI h2 98 37 (nI 0)) 140 k = nI (l.getD k 0) := fun l hl k hk => by
      have := g2 l hl k hk
      rw [Nat.zero_add] at this
      rw [Fr_I f3 (by omega)]; exact this
    simp only [nI_0] at e2
    cases hz : shF (aNo A) A 0 i with
    | none =>
      left
      rw [hz] at e2
      generalize hh3 : hSetI h2 98 37 (nI 0) = h3 at *
      have hh3' : hSetI h2 98 37 0 = h3 := by rw [← hh3, nI_0]
      refine ⟨([.ref 98, .int (nI (i + 1)), .int 0, v3], h3), ?_, h3, _, _, rfl, m3, rr3, fun u hu => ?_⟩
      · simp (disch := first | assumption | omega) [lstp, lc_M_places_1, lb_M_places_1, lu_M_places_1, j_meth, j_out, j_rok, j_pad, lg_sl, s_seq_w, isN_inl, isN_inr, s_if, jb, x_c, x_iloc, x_aloc, x_lloc, x_bin, x_un, o_add, o_sub, o_mul, o_and, o_or, o_xor, o_shl, o_shr, o_ushr, o_max, o_min, o_i2b, o_i2c, o_i2l, o_l2i, x_fld, j_fget, x_idx, j_aget, x_len, j_alen, x_ofb, x_ite, xs_nil, xs_cons, x_callv, x_calls, s_callv, s_calls, j_recv, j_ret, j_retv, b_cmp, b_and, b_or, b_not, b_ofi, b_ite, b_true, s_skip, s_set, j_ty, j_lset, j_kill, s_inc, s_fput, j_fput, s_fop, s_aput, j_aput, j_nar, s_aop, s_ret, s_retv, s_go, s_pop, x_linc, x_finc, Value.category, if_icmp.holds, List.flatMap_cons, List.flatMap_nil, List.length_cons, List.length_append, List.length_nil, List.set_cons_succ, List.set_cons_zero, List.getElem?_cons_succ, List.getElem?_cons_zero, List.replicate, ite_and', ite_or', ite_int', nI_leI, nI_ltI, nI_eq, nI_add, nI_1, pk_mul, nI_clamp, n_in', nI_pos', nI_pos, n_m1e, n_01, n_10, sT_98, sT_99, sT_100, sT_101, sT_102, sT_103, sT_104, sT_105, sT_106, sT_107, sT_108, sT_109, sT_110, sT_111, sT_112, sT_113, sT_114, sT_115, sT_116, sT_117, sT_118, sT_119, sT_120, sT_121, sT_122, sT_123, sT_124, sT_125, sT_126, sT_127, sT_128, sT_129, sT_130, sT_131, sT_132, sT_133, sT_134, sT_135, sT_136, sT_137, sT_138, sT_139, sT_140, sR_98_1, sR_98_4, sR_98_5, sR_98_6, sR_98_7, sR_98_8, sR_98_9, sR_98_10, sR_98_12, sR_98_13, sR_98_14, sR_98_15, sR_98_16, sR_98_17, sR_98_18, sR_98_19, sR_98_20, sR_98_21, sR_98_22, sR_98_23, sR_98_24, sR_98_25, sR_98_26, sR_98_27, sR_98_28, sR_98_29, sR_98_31, sR_98_34, sR_98_35, sR_98_36, sR_98_42, sR_98_44, sR_98_45, sR_98_47, sR_98_49, sR_98_51, sR_98_56, sR_98_58, sR_98_62, sR_98_65, sR_98_66, sR_98_69, hi, nI_0, e2, hh3']
      · by_cases e : u = i
        · rw [e, hz]; rfl
        · exact hall u (by omega)
    | some l =>
      right
      rw [hz] at e2
      have hll := shF_len _ _ _ _ _ hz
      have hq : sPlcs A = some (i, l) := by
        unfold sPlcs
        rw [fst1_of (j := i) hi (by simp only [hz]; rfl) hall]
        simp only [hz, Option.getD_some]
      have hvp : vPlaces A rw = (nI i, l.map nI) := by unfold vPlaces; rw [hq]
      rw [hvp]
      have m4 := MW_rw0 m3
      have rl4 : ∀ k, k < l.length → hI (hSetI (hSetI h2 98 37 (nI 0)) 98 32 (nI 0)) 140 k = nI (l.getD k 0) := fun k hk => by rw [hI_setI, if_neg (by omega)]; exact g140 l hz k hk
      have rr4 : RRw [] (hSetI (hSetI h2 98 37 (nI 0)) 98 32 (nI 0)) := RRw_0
      have hh4 : hSetI (hSetI h2 98 37 0) 98 32 0 = hSetI (hSetI h2 98 37 (nI 0)) 98 32 (nI 0) := by rw [nI_0]
      have hs3' : Shape (hSetI h2 98 37 0) := by rw [nI_0] at hs3; exact hs3
      generalize hSetI (hSetI h2 98 37 (nI 0)) 98 32 (nI 0) = h4 at *
      have hX := loop_wp (lb := 3) (lc := 4) (c := lc_M_places_2) (b := lb_M_places_2) (u := lu_M_places_2) (aNo A)
        (fun j st => ∃ h', st = ([.ref 98, .int (nI i), .int 1, .int (nI j)], h') ∧ MW Wop A h h' ∧ RRw ((l.take j).map nI) h' ∧ ∀ k, k < l.length → hI h' 140 k = nI (l.getD k 0))
        (fun r => ∃ h' L, r = (.inl 0, (.ref 98 :: .int (nI i) :: L, h')) ∧ MW Wop A h h' ∧ RRw (l.map nI) h')
        ?_ ?_ ([.ref 98, .int (nI i), .int 1, .int (nI 0)], h4) ⟨h4, rfl, m4, rr4, rl4⟩
      · obtain ⟨q, e, h5, L, rfl, m5, rr5⟩ := hX
        refine ⟨(.inr (some (.int (nI i))), (.ref 98 :: .int (nI i) :: L, h5)), ?_, h5, _, m5, rr5, Or.inl rfl⟩
        simp only [nI_0] at e
        simp (disch := first | assumption | omega) [lstp, lc_M_places_1, lb_M_places_1, lu_M_places_1, j_meth, j_out, j_rok, j_pad, lg_sl, s_seq_w, isN_inl, isN_inr, s_if, jb, x_c, x_iloc, x_aloc, x_lloc, x_bin, x_un, o_add, o_sub, o_mul, o_and, o_or, o_xor, o_shl, o_shr, o_ushr, o_max, o_min, o_i2b, o_i2c, o_i2l, o_l2i, x_fld, j_fget, x_idx, j_aget, x_len, j_alen, x_ofb, x_ite, xs_nil, xs_cons, x_callv, x_calls, s_callv, s_calls, j_recv, j_ret, j_retv, b_cmp, b_and, b_or, b_not, b_ofi, b_ite, b_true, s_skip, s_set, j_ty, j_lset, j_kill, s_inc, s_fput, j_fput, s_fop, s_aput, j_aput, j_nar, s_aop, s_ret, s_retv, s_go, s_pop, x_linc, x_finc, Value.category, if_icmp.holds, List.flatMap_cons, List.flatMap_nil, List.length_cons, List.length_append, List.length_nil, List.set_cons_succ, List.set_cons_zero, List.getElem?_cons_succ, List.getElem?_cons_zero, List.replicate, ite_and', ite_or', ite_int', nI_leI, nI_ltI, nI_eq, nI_add, nI_1, pk_mul, nI_clamp, n_in', nI_pos', nI_pos, n_m1e, n_01, n_10, sT_98, sT_99, sT_100, sT_101, sT_102, sT_103, sT_104, sT_105, sT_106, sT_107, sT_108, sT_109, sT_110, sT_111, sT_112, sT_113, sT_114, sT_115, sT_116, sT_117, sT_118, sT_119, sT_120, sT_121, sT_122, sT_123, sT_124, sT_125, sT_126, sT_127, sT_128, sT_129, sT_130, sT_131, sT_132, sT_133, sT_134, sT_135, sT_136, sT_137, sT_138, sT_139, sT_140, sR_98_1, sR_98_4, sR_98_5, sR_98_6, sR_98_7, sR_98_8, sR_98_9, sR_98_10, sR_98_12, sR_98_13, sR_98_14, sR_98_15, sR_98_16, sR_98_17, sR_98_18, sR_98_19, sR_98_20, sR_98_21, sR_98_22, sR_98_23, sR_98_24, sR_98_25, sR_98_26, sR_98_27, sR_98_28, sR_98_29, sR_98_31, sR_98_34, sR_98_35, sR_98_36, sR_98_42, sR_98_44, sR_98_45, sR_98_47, sR_98_49, sR_98_51, sR_98_56, sR_98_58, sR_98_62, sR_98_65, sR_98_66, sR_98_69, hi, nI_0, e2, hh4, e]
      · rintro j st hj ⟨h5, rfl, m5, rr5, rl5⟩
        left
        have hs5 := m5.2.1.1
        have q2 := m5.2.1.2.2.2.1.1
        have g := rl5 j (by omega)
        obtain ⟨h6, e6, r6, f6⟩ := e_M_tell hs5 rr5 (by rw [List.length_map, List.length_take]; omega) (nI (l.getD j 0))
        rw [← take_succ_map (by omega)] at r6
        refine ⟨([.ref 98, .int (nI i), .int 1, .int (nI (j + 1))], h6), ?_, h6, rfl, MW_tell m5 f6, r6, fun k hk => by rw [Fr_I f6 (by unfold Wrw; omega)]; exact rl5 k hk⟩
        generalize l.getD j 0 = y at *
        simp (disch := first | assumption | omega) [lstp, lc_M_places_2, lb_M_places_2, lu_M_places_2, j_meth, j_out, j_rok, j_pad, lg_sl, s_seq_w, isN_inl, isN_inr, s_if, jb, x_c, x_iloc, x_aloc, x_lloc, x_bin, x_un, o_add, o_sub, o_mul, o_and, o_or, o_xor, o_shl, o_shr, o_ushr, o_max, o_min, o_i2b, o_i2c, o_i2l, o_l2i, x_fld, j_fget, x_idx, j_aget, x_len, j_alen, x_ofb, x_ite, xs_nil, xs_cons, x_callv, x_calls, s_callv, s_calls, j_recv, j_ret, j_retv, b_cmp, b_and, b_or, b_not, b_ofi, b_ite, b_true, s_skip, s_set, j_ty, j_lset, j_kill, s_inc, s_fput, j_fput, s_fop, s_aput, j_aput, j_nar, s_aop, s_ret, s_retv, s_go, s_pop, x_linc, x_finc, Value.category, if_icmp.holds, List.flatMap_cons, List.flatMap_nil, List.length_cons, List.length_append, List.length_nil, List.set_cons_succ, List.set_cons_zero, List.getElem?_cons_succ, List.getElem?_cons_zero, List.replicate, ite_and', ite_or', ite_int', nI_leI, nI_ltI, nI_eq, nI_add, nI_1, pk_mul, nI_clamp, n_in', nI_pos', nI_pos, n_m1e, n_01, n_10, sT_98, sT_99, sT_100, sT_101, sT_102, sT_103, sT_104, sT_105, sT_106, sT_107, sT_108, sT_109, sT_110, sT_111, sT_112, sT_113, sT_114, sT_115, sT_116, sT_117, sT_118, sT_119, sT_120, sT_121, sT_122, sT_123, sT_124, sT_125, sT_126, sT_127, sT_128, sT_129, sT_130, sT_131, sT_132, sT_133, sT_134, sT_135, sT_136, sT_137, sT_138, sT_139, sT_140, sR_98_1, sR_98_4, sR_98_5, sR_98_6, sR_98_7, sR_98_8, sR_98_9, sR_98_10, sR_98_12, sR_98_13, sR_98_14, sR_98_15, sR_98_16, sR_98_17, sR_98_18, sR_98_19, sR_98_20, sR_98_21, sR_98_22, sR_98_23, sR_98_24, sR_98_25, sR_98_26, sR_98_27, sR_98_28, sR_98_29, sR_98_31, sR_98_34, sR_98_35, sR_98_36, sR_98_42, sR_98_44, sR_98_45, sR_98_47, sR_98_49, sR_98_51, sR_98_56, sR_98_58, sR_98_62, sR_98_65, sR_98_66, sR_98_69, q2, hj, g, e6]
      · rintro st ⟨h5, rfl, m5, rr5, rl5⟩
        have hs5 := m5.2.1.1
        have q2 := m5.2.1.2.2.2.1.1
        have ht : l.take (aNo A) = l := by rw [← hll]; exact List.take_length
        rw [ht] at rr5
        refine ⟨_, ?_, h5, [.int 1, .int (nI (aNo A))], rfl, m5, rr5⟩
        simp (disch := first | assumption | omega) [lstp, lc_M_places_2, lb_M_places_2, lu_M_places_2, j_meth, j_out, j_rok, j_pad, lg_sl, s_seq_w, isN_inl, isN_inr, s_if, jb, x_c, x_iloc, x_aloc, x_lloc, x_bin, x_un, o_add, o_sub, o_mul, o_and, o_or, o_xor, o_shl, o_shr, o_ushr, o_max, o_min, o_i2b, o_i2c, o_i2l, o_l2i, x_fld, j_fget, x_idx, j_aget, x_len, j_alen, x_ofb, x_ite, xs_nil, xs_cons, x_callv, x_calls, s_callv, s_calls, j_recv, j_ret, j_retv, b_cmp, b_and, b_or, b_not, b_ofi, b_ite, b_true, s_skip, s_set, j_ty, j_lset, j_kill, s_inc, s_fput, j_fput, s_fop, s_aput, j_aput, j_nar, s_aop, s_ret, s_retv, s_go, s_pop, x_linc, x_finc, Value.category, if_icmp.holds, List.flatMap_cons, List.flatMap_nil, List.length_cons, List.length_append, List.length_nil, List.set_cons_succ, List.set_cons_zero, List.getElem?_cons_succ, List.getElem?_cons_zero, List.replicate, ite_and', ite_or', ite_int', nI_leI, nI_ltI, nI_eq, nI_add, nI_1, pk_mul, nI_clamp, n_in', nI_pos', nI_pos, n_m1e, n_01, n_10, sT_98, sT_99, sT_100, sT_101, sT_102, sT_103, sT_104, sT_105, sT_106, sT_107, sT_108, sT_109, sT_110, sT_111, sT_112, sT_113, sT_114, sT_115, sT_116, sT_117, sT_118, sT_119, sT_120, sT_121, sT_122, sT_123, sT_124, sT_125, sT_126, sT_127, sT_128, sT_129, sT_130, sT_131, sT_132, sT_133, sT_134, sT_135, sT_136, sT_137, sT_138, sT_139, sT_140, sR_98_1, sR_98_4, sR_98_5, sR_98_6, sR_98_7, sR_98_8, sR_98_9, sR_98_10, sR_98_12, sR_98_13, sR_98_14, sR_98_15, sR_98_16, sR_98_17, sR_98_18, sR_98_19, sR_98_20, sR_98_21, sR_98_22, sR_98_23, sR_98_24, sR_98_25, sR_98_26, sR_98_27, sR_98_28, sR_98_29, sR_98_31, sR_98_34, sR_98_35, sR_98_36, sR_98_42, sR_98_44, sR_98_45, sR_98_47, sR_98_49, sR_98_51, sR_98_56, sR_98_58, sR_98_62, sR_98_65, sR_98_66, sR_98_69, q2]
  · rintro st ⟨h1, v2, v3, rfl, m1, rr1, hall⟩
    have hs1 := m1.2.1.1
    have hq : sPlcs A = none := by
      unfold sPlcs
      rw [fst1_no hall]
    have hvp : vPlaces A rw = (-2, rw) := by unfold vPlaces; rw [hq]
    rw [hvp]
    have h44 : ¬ nI 4 < nI 4 := by decide
    refine ⟨(.inl 0, ([.ref 98, .int (nI 4), v2, v3], h1)), ?_, h1, _, m1, rr1, Or.inr ⟨rfl, rfl⟩⟩
    simp (disch := first | assumption | omega) [lstp, lc_M_places_1, lb_M_places_1, lu_M_places_1, j_meth, j_out, j_rok, j_pad, lg_sl, s_seq_w, isN_inl, isN_inr, s_if, jb, x_c, x_iloc, x_aloc, x_lloc, x_bin, x_un, o_add, o_sub, o_mul, o_and, o_or, o_xor, o_shl, o_shr, o_ushr, o_max, o_min, o_i2b, o_i2c, o_i2l, o_l2i, x_fld, j_fget, x_idx, j_aget, x_len, j_alen, x_ofb, x_ite, xs_nil, xs_cons, x_callv, x_calls, s_callv, s_calls, j_recv, j_ret, j_retv, b_cmp, b_and, b_or, b_not, b_ofi, b_ite, b_true, s_skip, s_set, j_ty, j_lset, j_kill, s_inc, s_fput, j_fput, s_fop, s_aput, j_aput, j_nar, s_aop, s_ret, s_retv, s_go, s_pop, x_linc, x_finc, Value.category, if_icmp.holds, List.flatMap_cons, List.flatMap_nil, List.length_cons, List.length_append, List.length_nil, List.set_cons_succ, List.set_cons_zero, List.getElem?_cons_succ, List.getElem?_cons_zero, List.replicate, ite_and', ite_or', ite_int', nI_leI, nI_ltI, nI_eq, nI_add, nI_1, pk_mul, nI_clamp, n_in', nI_pos', nI_pos, n_m1e, n_01, n_10, sT_98, sT_99, sT_100, sT_101, sT_102, sT_103, sT_104, sT_105, sT_106, sT_107, sT_108, sT_109, sT_110, sT_111, sT_112, sT_113, sT_114, sT_115, sT_116, sT_117, sT_118, sT_119, sT_120, sT_121, sT_122, sT_123, sT_124, sT_125, sT_126, sT_127, sT_128, sT_129, sT_130, sT_131, sT_132, sT_133, sT_134, sT_135, sT_136, sT_137, sT_138, sT_139, sT_140, sR_98_1, sR_98_4, sR_98_5, sR_98_6, sR_98_7, sR_98_8, sR_98_9, sR_98_10, sR_98_12, sR_98_13, sR_98_14, sR_98_15, sR_98_16, sR_98_17, sR_98_18, sR_98_19, sR_98_20, sR_98_21, sR_98_22, sR_98_23, sR_98_24, sR_98_25, sR_98_26, sR_98_27, sR_98_28, sR_98_29, sR_98_31, sR_98_34, sR_98_35, sR_98_36, sR_98_42, sR_98_44, sR_98_45, sR_98_47, sR_98_49, sR_98_51, sR_98_56, sR_98_58, sR_98_62, sR_98_65, sR_98_66, sR_98_69, h44]
