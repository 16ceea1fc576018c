def nxL (A : AS) (l : List Nat) (i j : Nat) : Bool := sNxt A l (l.getD i 0) (l.getD j 0)
def vSteps (A : AS) (x y : Int32) : Int32 := if (j_in x (2 ^ aNb A) ∧ j_in y (2 ^ aNb A)) ∧ sStd A x.toNatClampNeg ∧ sStd A y.toNatClampNeg then (match dst (nxL A (sAllR A)) (sAllR A).length (idxL (sAllR A) x.toNatClampNeg) (idxL (sAllR A) y.toNatClampNeg) with
  | some d => nI d
  | none => -2) else -1
def RBf (N : Nat) (Q : List Nat) (far : Nat → Nat) (h : jHp) : Prop := (∀ i, i < N → hI h 138 i = if i ∈ Q then nI (far i) else -1) ∧ ∀ a, a < Q.length → hI h 139 a = nI (Q.getD a 0)
def Wst (a _ : Nat) : Prop := a = 138 ∨ a = 139
theorem nd_le {Q : List Nat} {N : Nat} (h1 : Q.Nodup) (h2 : ∀ i ∈ Q, i < N) : Q.length ≤ N := by
  have h3 := nd_cnt (p := fun _ => true) (n := N) h1 (fun b hb => ⟨h2 b hb, rfl⟩)
  have h4 := cntN_le (fun _ => true) N
  omega
def nsL (nx : Nat → Nat → Bool) (Q : List Nat) (u i : Nat) : List Nat := (List.range i).filter (fun j => !Q.contains j && nx u j)
theorem nsL_s (nx : Nat → Nat → Bool) (Q : List Nat) (u i : Nat) : nsL nx Q u (i + 1) = nsL nx Q u i ++ if (!Q.contains i && nx u i) = true then [i] else [] := by
  unfold nsL
  rw [List.range_succ, List.filter_append]
  congr 1
  by_cases h : (!Q.contains i && nx u i) = true
  · rw [if_pos h]; simp only [List.filter_cons, h, if_true, List.filter_nil]
  · rw [if_neg h]; simp only [List.filter_cons, h]; rfl
theorem nsL_mem {nx : Nat → Nat → Bool} {Q : List Nat} {u i j : Nat} : j ∈ nsL nx Q u i ↔ j < i ∧ j ∉ Q ∧ nx u j = true := by
  unfold nsL
  rw [List.mem_filter, List.mem_range]
  simp
theorem nsL_nd (nx : Nat → Nat → Bool) (Q : List Nat) (u i : Nat) : (nsL nx Q u i).Nodup := (List.nodup_range).filter _
theorem MW_st {A : AS} {h h1 h2 : jHp} (m : MW Wop A h h1) (f : Fr Wst h1 h2) : MW Wop A h h2 := MW_step m f (by
  intro a k hv
  unfold Wst at hv
  unfold Wop cM
  omega)
theorem e_st_3 {A : AS} {h0 h : jHp} (m : MW Wop A h0 h) {l : List Nat} (rs : RSt l h) (hll : l.length ≤ 12288) {Q : List Nat} {far : Nat → Nat} (hQ : Q.Nodup) (hQN : ∀ i ∈ Q, i < l.length) (rb : RBf l.length Q far h) {u : Nat} (hu : u ∈ Q) (hfar : ∀ i ∈ Q, far i < 2 ^ 30) (x y hd : Int32) :
    ∃ h' v, s_loop 5 6 lc_M_steps_3 lb_M_steps_3 lu_M_steps_3 ([.ref 98, .int x, .int y, .int hd, .int (nI Q.length), .int (nI u), .int (nI 0)], h) = some (.inl 0, ([.ref 98, .int x, .int y, .int hd, .int (nI (Q ++ nsL (nxL A l) Q u l.length).length), .int (nI u), v], h')) ∧ Fr Wst h h' ∧ RBf l.length (Q ++ nsL (nxL A l) Q u l.length) (fun j => if j ∈ Q then far j else far u + 1) h' := by
  have huN := hQN u hu
  have hX := loop_wp (lb := 5) (lc := 6) (c := lc_M_steps_3) (b := lb_M_steps_3) (u := lu_M_steps_3) l.length
    (fun i st => ∃ h', st = ([.ref 98, .int x, .int y, .int hd, .int (nI (Q ++ nsL (nxL A l) Q u i).length), .int (nI u), .int (nI i)], h') ∧ Fr Wst h h' ∧ RBf l.length (Q ++ nsL (nxL A l) Q u i) (fun j => if j ∈ Q then far j else far u + 1) h')
    (fun r => ∃ h' v, r = (.inl 0, ([.ref 98, .int x, .int y, .int hd, .int (nI (Q ++ nsL (nxL A l) Q u l.length).length), .int (nI u), v], h')) ∧ Fr Wst h h' ∧ RBf l.length (Q ++ nsL (nxL A l) Q u l.length) (fun j => if j ∈ Q then far j else far u + 1) h')
    ?_ ?_ ([.ref 98, .int x, .int y, .int hd, .int (nI Q.length), .int (nI u), .int (nI 0)], h) ⟨h, by simp [nsL], Fr_refl _ _, ?_⟩
  · obtain ⟨r, e, h', v, rfl, g⟩ := hX
    exact ⟨h', v, e, g⟩
  · rintro i st hi ⟨h1, rfl, f1, rb1⟩
    left
    have m1 := MW_st m f1
    have k1 := m1.2.1
    have hs1 := k1.1
    have rs1 := RSt_fr rs f1 (by unfold Wst; intro a k; omega)
    have g1 := rs1.2.1 i hi
    have gu := rs1.2.1 u huN
    have x1 := rs1.2.2 _ (getD_mem' (d := 0) hi)
    have xu := rs1.2.2 _ (getD_mem' (d := 0) huN)
    have en := e_M_isNext k1 rs1 hll (a := l.getD u 0) (b := l.getD i 0) xu x1
    have hnx : sNxt A l (l.getD u 0) (l.getD i 0) = nxL A l u i := rfl
    rw [hnx] at en
    have cf := rb1.1 i hi
    have hndi : (Q ++ nsL (nxL A l) Q u i).Nodup := by
      rw [List.nodup_append]
      exact ⟨hQ, nsL_nd _ _ _ _, fun a ha c hc e => (nsL_mem.mp hc).2.1 (e ▸ ha)⟩
    have hNi : ∀ j ∈ Q ++ nsL (nxL A l) Q u i, j < l.length := fun j hj => by
      rcases List.mem_append.mp hj with q | q
      · exact hQN j q
      · have := (nsL_mem.mp q).1; omega
    have hleni := nd_le hndi hNi
    rw [nsL_s]
    have hmi : i ∈ Q ++ nsL (nxL A l) Q u i ↔ i ∈ Q := by
      rw [List.mem_append]
      constructor
      · rintro (q | q)
        · exact q
        · have := (nsL_mem.mp q).1; omega
      · exact Or.inl
    by_cases hiQ : i ∈ Q
    · have hc : ¬ (!Q.contains i && nxL A l u i) = true := by simp [hiQ]
      rw [if_neg hc, List.append_nil]
      rw [if_pos (hmi.mpr hiQ)] at cf
      simp only [if_pos hiQ] at cf
      refine ⟨([.ref 98, .int x, .int y, .int hd, .int (nI (Q ++ nsL (nxL A l) Q u i).length), .int (nI u), .int (nI (i + 1))], h1), ?_, h1, rfl, f1, rb1⟩
      have hfb := n_m1e (n := far i) (by have := hfar i hiQ; omega)
      simp (disch := first | assumption | omega) [lstp, lc_M_steps_3, lb_M_steps_3, lu_M_steps_3, j_meth, j_out, j_rok, j_pad, lg_sl, s_seq_w, isN_inl, isN_inr, s_if, jb, x_c, x_iloc, x_aloc, x_lloc, x_bin, x_un, o_add, o_sub, o_mul, o_and, o_or, o_xor, o_shl, o_shr, o_ushr, o_max, o_min, o_i2b, o_i2c, o_i2l, o_l2i, x_fld, j_fget, x_idx, j_aget, x_len, j_alen, x_ofb, x_ite, xs_nil, xs_cons, x_callv, x_calls, s_callv, s_calls, j_recv, j_ret, j_retv, b_cmp, b_and, b_or, b_not, b_ofi, b_ite, b_true, s_skip, s_set, j_ty, j_lset, j_kill, s_inc, s_fput, j_fput, s_fop, s_aput, j_aput, j_nar, s_aop, s_ret, s_retv, s_go, s_pop, x_linc, x_finc, Value.category, if_icmp.holds, List.flatMap_cons, List.flatMap_nil, List.length_cons, List.length_append, List.length_nil, List.set_cons_succ, List.set_cons_zero, List.getElem?_cons_succ, List.getElem?_cons_zero, List.replicate, ite_and', ite_or', ite_int', nI_leI, nI_ltI, nI_eq, nI_add, nI_1, pk_mul, nI_clamp, n_in', nI_pos', nI_pos, n_m1e, n_01, n_10, sT_98, sT_99, sT_100, sT_101, sT_102, sT_103, sT_104, sT_105, sT_106, sT_107, sT_108, sT_109, sT_110, sT_111, sT_112, sT_113, sT_114, sT_115, sT_116, sT_117, sT_118, sT_119, sT_120, sT_121, sT_122, sT_123, sT_124, sT_125, sT_126, sT_127, sT_128, sT_129, sT_130, sT_131, sT_132, sT_133, sT_134, sT_135, sT_136, sT_137, sT_138, sT_139, sT_140, sR_98_1, sR_98_4, sR_98_5, sR_98_6, sR_98_7, sR_98_8, sR_98_9, sR_98_10, sR_98_12, sR_98_13, sR_98_14, sR_98_15, sR_98_16, sR_98_17, sR_98_18, sR_98_19, sR_98_20, sR_98_21, sR_98_22, sR_98_23, sR_98_24, sR_98_25, sR_98_26, sR_98_27, sR_98_28, sR_98_29, sR_98_31, sR_98_34, sR_98_35, sR_98_36, sR_98_42, sR_98_44, sR_98_45, sR_98_47, sR_98_49, sR_98_51, sR_98_56, sR_98_58, sR_98_62, sR_98_65, sR_98_66, sR_98_69, rs1.1, hi, cf, hfb]
    · rw [if_neg (fun q => hiQ (hmi.mp q))] at cf
      cases hn : nxL A l u i with
      | false =>
        have hc : ¬ (!Q.contains i && false) = true := by simp
        rw [if_neg hc, List.append_nil]
        rw [hn] at en
        refine ⟨([.ref 98, .int x, .int y, .int hd, .int (nI (Q ++ nsL (nxL A l) Q u i).length), .int (nI u), .int (nI (i + 1))], h1), ?_, h1, rfl, f1, rb1⟩
        generalize l.getD i 0 = yy at *
        generalize l.getD u 0 = zz at *
        simp (disch := first | assumption | omega) [lstp, lc_M_steps_3, lb_M_steps_3, lu_M_steps_3, j_meth, j_out, j_rok, j_pad, lg_sl, s_seq_w, isN_inl, isN_inr, s_if, jb, x_c, x_iloc, x_aloc, x_lloc, x_bin, x_un, o_add, o_sub, o_mul, o_and, o_or, o_xor, o_shl, o_shr, o_ushr, o_max, o_min, o_i2b, o_i2c, o_i2l, o_l2i, x_fld, j_fget, x_idx, j_aget, x_len, j_alen, x_ofb, x_ite, xs_nil, xs_cons, x_callv, x_calls, s_callv, s_calls, j_recv, j_ret, j_retv, b_cmp, b_and, b_or, b_not, b_ofi, b_ite, b_true, s_skip, s_set, j_ty, j_lset, j_kill, s_inc, s_fput, j_fput, s_fop, s_aput, j_aput, j_nar, s_aop, s_ret, s_retv, s_go, s_pop, x_linc, x_finc, Value.category, if_icmp.holds, List.flatMap_cons, List.flatMap_nil, List.length_cons, List.length_append, List.length_nil, List.set_cons_succ, List.set_cons_zero, List.getElem?_cons_succ, List.getElem?_cons_zero, List.replicate, ite_and', ite_or', ite_int', nI_leI, nI_ltI, nI_eq, nI_add, nI_1, pk_mul, nI_clamp, n_in', nI_pos', nI_pos, n_m1e, n_01, n_10, sT_98, sT_99, sT_100, sT_101, sT_102, sT_103, sT_104, sT_105, sT_106, sT_107, sT_108, sT_109, sT_110, sT_111, sT_112, sT_113, sT_114, sT_115, sT_116, sT_117, sT_118, sT_119, sT_120, sT_121, sT_122, sT_123, sT_124, sT_125, sT_126, sT_127, sT_128, sT_129, sT_130, sT_131, sT_132, sT_133, sT_134, sT_135, sT_136, sT_137, sT_138, sT_139, sT_140, sR_98_1, sR_98_4, sR_98_5, sR_98_6, sR_98_7, sR_98_8, sR_98_9, sR_98_10, sR_98_12, sR_98_13, sR_98_14, sR_98_15, sR_98_16, sR_98_17, sR_98_18, sR_98_19, sR_98_20, sR_98_21, sR_98_22, sR_98_23, sR_98_24, sR_98_25, sR_98_26, sR_98_27, sR_98_28, sR_98_29, sR_98_31, sR_98_34, sR_98_35, sR_98_36, sR_98_42, sR_98_44, sR_98_45, sR_98_47, sR_98_49, sR_98_51, sR_98_56, sR_98_58, sR_98_62, sR_98_65, sR_98_66, sR_98_69, rs1.1, hi, huN, cf, g1, gu, en]
      | true =>
        have hc : (!Q.contains i && true) = true := by simp [hiQ]
        rw [if_pos hc]
        rw [hn] at en
        have cu := rb1.1 u huN
        rw [if_pos (List.mem_append.mpr (Or.inl hu))] at cu
        simp only [if_pos hu] at cu
        have hlt : (Q ++ nsL (nxL A l) Q u i).length < l.length := by
          have := nd_le (Q := i :: (Q ++ nsL (nxL A l) Q u i)) (N := l.length) (by
            rw [List.nodup_cons]
            exact ⟨fun q => hiQ (hmi.mp q), hndi⟩) (fun j hj => by
            rcases List.mem_cons.mp hj with q | q
            · rw [q]; exact hi
            · exact hNi j q)
          rw [List.length_cons] at this
          omega
        generalize hQi : Q ++ nsL (nxL A l) Q u i = Qi at *
        have f2 : Fr Wst h1 (hSetI (hSetI h1 138 i (nI (far u + 1))) 139 Qi.length (nI i)) := Fr_trans (Fr_set _ (Or.inl rfl)) (Fr_set _ (Or.inr rfl))
        have hs2 : Shape (hSetI h1 138 i (nI (far u + 1))) := Fr_shape (W := Wst) hs1 (Fr_set _ (Or.inl rfl))
        have happ : Q ++ (nsL (nxL A l) Q u i ++ [i]) = Qi ++ [i] := by rw [← List.append_assoc, hQi]
        rw [happ, List.length_append, List.length_singleton]
        refine ⟨([.ref 98, .int x, .int y, .int hd, .int (nI (Qi.length + 1)), .int (nI u), .int (nI (i + 1))], hSetI (hSetI h1 138 i (nI (far u + 1))) 139 Qi.length (nI i)), ?_, _, rfl, Fr_trans f1 f2, fun j hj => ?_, fun a ha => ?_⟩
        · generalize l.getD i 0 = yy at *
          generalize l.getD u 0 = zz at *
          generalize hg : hSetI h1 138 i (nI (far u + 1)) = h2 at *
          simp (disch := first | assumption | omega) [lstp, lc_M_steps_3, lb_M_steps_3, lu_M_steps_3, j_meth, j_out, j_rok, j_pad, lg_sl, s_seq_w, isN_inl, isN_inr, s_if, jb, x_c, x_iloc, x_aloc, x_lloc, x_bin, x_un, o_add, o_sub, o_mul, o_and, o_or, o_xor, o_shl, o_shr, o_ushr, o_max, o_min, o_i2b, o_i2c, o_i2l, o_l2i, x_fld, j_fget, x_idx, j_aget, x_len, j_alen, x_ofb, x_ite, xs_nil, xs_cons, x_callv, x_calls, s_callv, s_calls, j_recv, j_ret, j_retv, b_cmp, b_and, b_or, b_not, b_ofi, b_ite, b_true, s_skip, s_set, j_ty, j_lset, j_kill, s_inc, s_fput, j_fput, s_fop, s_aput, j_aput, j_nar, s_aop, s_ret, s_retv, s_go, s_pop, x_linc, x_finc, Value.category, if_icmp.holds, List.flatMap_cons, List.flatMap_nil, List.length_cons, List.length_append, List.length_nil, List.set_cons_succ, List.set_cons_zero, List.getElem?_cons_succ, List.getElem?_cons_zero, List.replicate, ite_and', ite_or', ite_int', nI_leI, nI_ltI, nI_eq, nI_add, nI_1, pk_mul, nI_clamp, n_in', nI_pos', nI_pos, n_m1e, n_01, n_10, sT_98, sT_99, sT_100, sT_101, sT_102, sT_103, sT_104, sT_105, sT_106, sT_107, sT_108, sT_109, sT_110, sT_111, sT_112, sT_113, sT_114, sT_115, sT_116, sT_117, sT_118, sT_119, sT_120, sT_121, sT_122, sT_123, sT_124, sT_125, sT_126, sT_127, sT_128, sT_129, sT_130, sT_131, sT_132, sT_133, sT_134, sT_135, sT_136, sT_137, sT_138, sT_139, sT_140, sR_98_1, sR_98_4, sR_98_5, sR_98_6, sR_98_7, sR_98_8, sR_98_9, sR_98_10, sR_98_12, sR_98_13, sR_98_14, sR_98_15, sR_98_16, sR_98_17, sR_98_18, sR_98_19, sR_98_20, sR_98_21, sR_98_22, sR_98_23, sR_98_24, sR_98_25, sR_98_26, sR_98_27, sR_98_28, sR_98_29, sR_98_31, sR_98_34, sR_98_35, sR_98_36, sR_98_42, sR_98_44, sR_98_45, sR_98_47, sR_98_49, sR_98_51, sR_98_56, sR_98_58, sR_98_62, sR_98_65, sR_98_66, sR_98_69, rs1.1, hi, huN, cf, g1, gu, en, cu, hg]
        · rw [hI_setI, if_neg (by omega), hI_setI]
          by_cases e : j = i
          · subst e
            rw [if_pos ⟨rfl, rfl⟩, if_pos (by simp)]
            simp only [if_neg hiQ]
          · rw [if_neg (by omega), rb1.1 j hj]
            have : (j ∈ Qi ++ [i]) = (j ∈ Qi) := by simp [e]
            simp only [this]
        · rw [List.length_append, List.length_singleton] at ha
          rw [hI_setI]
          by_cases e : a = Qi.length
          · rw [if_pos ⟨rfl, e⟩, e]; simp
          · rw [if_neg (by omega), hI_setI, if_neg (by omega), rb1.2 a (by omega)]
            simp only [List.getD_eq_getElem?_getD]
            rw [List.getElem?_append_left (by omega)]
  · rintro st ⟨h1, rfl, f1, rb1⟩
    have hs1 := (MW_st m f1).2.1.1
    have rs1 := RSt_fr rs f1 (by unfold Wst; intro a k; omega)
    refine ⟨_, ?_, h1, .int (nI l.length), rfl, f1, rb1⟩
    simp (disch := first | assumption | omega) [lstp, lc_M_steps_3, lb_M_steps_3, lu_M_steps_3, j_meth, j_out, j_rok, j_pad, lg_sl, s_seq_w, isN_inl, isN_inr, s_if, jb, x_c, x_iloc, x_aloc, x_lloc, x_bin, x_un, o_add, o_sub, o_mul, o_and, o_or, o_xor, o_shl, o_shr, o_ushr, o_max, o_min, o_i2b, o_i2c, o_i2l, o_l2i, x_fld, j_fget, x_idx, j_aget, x_len, j_alen, x_ofb, x_ite, xs_nil, xs_cons, x_callv, x_calls, s_callv, s_calls, j_recv, j_ret, j_retv, b_cmp, b_and, b_or, b_not, b_ofi, b_ite, b_true, s_skip, s_set, j_ty, j_lset, j_kill, s_inc, s_fput, j_fput, s_fop, s_aput, j_aput, j_nar, s_aop, s_ret, s_retv, s_go, s_pop, x_linc, x_finc, Value.category, if_icmp.holds, List.flatMap_cons, List.flatMap_nil, List.length_cons, List.length_append, List.length_nil, List.set_cons_succ, List.set_cons_zero, List.getElem?_cons_succ, List.getElem?_cons_zero, List.replicate, ite_and', ite_or', ite_int', nI_leI, nI_ltI, nI_eq, nI_add, nI_1, pk_mul, nI_clamp, n_in', nI_pos', nI_pos, n_m1e, n_01, n_10, sT_98, sT_99, sT_100, sT_101, sT_102, sT_103, sT_104, sT_105, sT_106, sT_107, sT_108, sT_109, sT_110, sT_111, sT_112, sT_113, sT_114, sT_115, sT_116, sT_117, sT_118, sT_119, sT_120, sT_121, sT_122, sT_123, sT_124, sT_125, sT_126, sT_127, sT_128, sT_129, sT_130, sT_131, sT_132, sT_133, sT_134, sT_135, sT_136, sT_137, sT_138, sT_139, sT_140, sR_98_1, sR_98_4, sR_98_5, sR_98_6, sR_98_7, sR_98_8, sR_98_9, sR_98_10, sR_98_12, sR_98_13, sR_98_14, sR_98_15, sR_98_16, sR_98_17, sR_98_18, sR_98_19, sR_98_20, sR_98_21, sR_98_22, sR_98_23, sR_98_24, sR_98_25, sR_98_26, sR_98_27, sR_98_28, sR_98_29, sR_98_31, sR_98_34, sR_98_35, sR_98_36, sR_98_42, sR_98_44, sR_98_45, sR_98_47, sR_98_49, sR_98_51, sR_98_56, sR_98_58, sR_98_62, sR_98_65, sR_98_66, sR_98_69, rs1.1]
  · have : Q ++ nsL (nxL A l) Q u 0 = Q := by simp [nsL]
    rw [this]
    exact ⟨fun i hi => by
      rw [rb.1 i hi]
      by_cases q : i ∈ Q
      · simp only [if_pos q]
      · rw [if_neg q, if_neg q], rb.2⟩

theorem e_st_1 {A : AS} {h0 h : jHp} (m : MW Wop A h0 h) {l : List Nat} (rs : RSt l h) (hll : l.length ≤ 12288) (hnd : l.Nodup) {s : Nat} (hs : s < l.length) (y : Int32) :
    ∃ h' v, s_loop 1 2 lc_M_steps_1 lb_M_steps_1 lu_M_steps_1 ([.ref 98, .int (nI (l.getD s 0)), .int y, .int (nI 0), .int (nI 0), .int (nI 0), .null], h) = some (.inl 0, ([.ref 98, .int (nI (l.getD s 0)), .int y, .int (nI 0), .int (nI 1), v, .null], h')) ∧ Fr Wst h h' ∧ RBf l.length [s] (fun _ => 0) h' := by
  have hinj : ∀ k, k < l.length → l.getD k 0 = l.getD s 0 → k = s := by
    intro k hk e
    simp only [List.getD_eq_getElem?_getD, List.getElem?_eq_getElem hk, List.getElem?_eq_getElem hs, Option.getD_some] at e
    rcases Nat.lt_trichotomy k s with q | q | q
    · exact absurd e (List.pairwise_iff_getElem.mp hnd k s hk hs q)
    · exact q
    · exact absurd e.symm (List.pairwise_iff_getElem.mp hnd s k hs hk q)
  have xs := rs.2.2 _ (getD_mem' (d := 0) hs)
  have hX := loop_wp (lb := 1) (lc := 2) (c := lc_M_steps_1) (b := lb_M_steps_1) (u := lu_M_steps_1) l.length
    (fun i st => ∃ h', st = ([.ref 98, .int (nI (l.getD s 0)), .int y, .int (nI 0), .int (nI (if s < i then 1 else 0)), .int (nI i), .null], h') ∧ Fr Wst h h' ∧ (∀ k, k < i → hI h' 138 k = if k = s then nI 0 else -1) ∧ (s < i → hI h' 139 0 = nI s))
    (fun r => ∃ h' v, r = (.inl 0, ([.ref 98, .int (nI (l.getD s 0)), .int y, .int (nI 0), .int (nI 1), v, .null], h')) ∧ Fr Wst h h' ∧ RBf l.length [s] (fun _ => 0) h')
    ?_ ?_ ([.ref 98, .int (nI (l.getD s 0)), .int y, .int (nI 0), .int (nI 0), .int (nI 0), .null], h) ⟨h, by simp, Fr_refl _ _, fun k hk => (by cases hk), fun q => by omega⟩
  · obtain ⟨r, e, h', v, rfl, g⟩ := hX
    exact ⟨h', v, e, g⟩
  · rintro i st hi ⟨h1, rfl, f1, g1, g2⟩
    left
    have hs1 := (MW_st m f1).2.1.1
    have rs1 := RSt_fr rs f1 (by unfold Wst; intro a k; omega)
    have c := rs1.2.1 i hi
    have x1 := rs1.2.2 _ (getD_mem' (d := 0) hi)
    by_cases e : i = s
    · subst e
      have f2 : Fr Wst h1 (hSetI (hSetI h1 138 i (nI 0)) 139 0 (nI i)) := Fr_trans (Fr_set _ (Or.inl rfl)) (Fr_set _ (Or.inr rfl))
      have hs2 : Shape (hSetI h1 138 i (nI 0)) := Fr_shape (W := Wst) hs1 (Fr_set _ (Or.inl rfl))
      have d1 : hI (hSetI h1 138 i (nI 0)) 138 i = 0 := by rw [hI_setI, if_pos ⟨rfl, rfl⟩]; rfl
      have h0' : ¬ i < i := Nat.lt_irrefl i
      have h1' : i < i + 1 := by omega
      rw [if_neg h0', if_pos h1']
      refine ⟨([.ref 98, .int (nI (l.getD i 0)), .int y, .int (nI 0), .int (nI 1), .int (nI (i + 1)), .null], hSetI (hSetI h1 138 i (nI 0)) 139 0 (nI i)), ?_, _, rfl, Fr_trans f1 f2, fun k hk => ?_, fun _ => by rw [hI_setI, if_pos ⟨rfl, rfl⟩]⟩
      · have j0 := n_in' (i := 0) (n := 12300) (by decide) (by decide)
        have z0 : (nI 0).toNatClampNeg = 0 := by decide
        generalize l.getD i 0 = yy at *
        generalize hg : hSetI h1 138 i (nI 0) = h2 at *
        simp (disch := first | assumption | omega) [lstp, lc_M_steps_1, lb_M_steps_1, lu_M_steps_1, j_meth, j_out, j_rok, j_pad, lg_sl, s_seq_w, isN_inl, isN_inr, s_if, jb, x_c, x_iloc, x_aloc, x_lloc, x_bin, x_un, o_add, o_sub, o_mul, o_and, o_or, o_xor, o_shl, o_shr, o_ushr, o_max, o_min, o_i2b, o_i2c, o_i2l, o_l2i, x_fld, j_fget, x_idx, j_aget, x_len, j_alen, x_ofb, x_ite, xs_nil, xs_cons, x_callv, x_calls, s_callv, s_calls, j_recv, j_ret, j_retv, b_cmp, b_and, b_or, b_not, b_ofi, b_ite, b_true, s_skip, s_set, j_ty, j_lset, j_kill, s_inc, s_fput, j_fput, s_fop, s_aput, j_aput, j_nar, s_aop, s_ret, s_retv, s_go, s_pop, x_linc, x_finc, Value.category, if_icmp.holds, List.flatMap_cons, List.flatMap_nil, List.length_cons, List.length_append, List.length_nil, List.set_cons_succ, List.set_cons_zero, List.getElem?_cons_succ, List.getElem?_cons_zero, List.replicate, ite_and', ite_or', ite_int', nI_leI, nI_ltI, nI_eq, nI_add, nI_1, pk_mul, nI_clamp, n_in', nI_pos', nI_pos, n_m1e, n_01, n_10, sT_98, sT_99, sT_100, sT_101, sT_102, sT_103, sT_104, sT_105, sT_106, sT_107, sT_108, sT_109, sT_110, sT_111, sT_112, sT_113, sT_114, sT_115, sT_116, sT_117, sT_118, sT_119, sT_120, sT_121, sT_122, sT_123, sT_124, sT_125, sT_126, sT_127, sT_128, sT_129, sT_130, sT_131, sT_132, sT_133, sT_134, sT_135, sT_136, sT_137, sT_138, sT_139, sT_140, sR_98_1, sR_98_4, sR_98_5, sR_98_6, sR_98_7, sR_98_8, sR_98_9, sR_98_10, sR_98_12, sR_98_13, sR_98_14, sR_98_15, sR_98_16, sR_98_17, sR_98_18, sR_98_19, sR_98_20, sR_98_21, sR_98_22, sR_98_23, sR_98_24, sR_98_25, sR_98_26, sR_98_27, sR_98_28, sR_98_29, sR_98_31, sR_98_34, sR_98_35, sR_98_36, sR_98_42, sR_98_44, sR_98_45, sR_98_47, sR_98_49, sR_98_51, sR_98_56, sR_98_58, sR_98_62, sR_98_65, sR_98_66, sR_98_69, rs1.1, hi, c, hg, d1]
      · rw [hI_setI, if_neg (by omega), hI_setI]
        by_cases e : k = i
        · rw [if_pos ⟨rfl, e⟩, if_pos e]
        · rw [if_neg (by omega)]; exact g1 k (by omega)
    · have hne : ¬ l.getD i 0 = l.getD s 0 := fun q => e (hinj i hi q)
      have f2 : Fr Wst h1 (hSetI h1 138 i (-1)) := Fr_set _ (Or.inl rfl)
      have hs2 := Fr_shape hs1 f2
      have d1 : hI (hSetI h1 138 i (-1)) 138 i = -1 := by rw [hI_setI, if_pos ⟨rfl, rfl⟩]
      have hif : (if s < i + 1 then 1 else 0) = (if s < i then 1 else 0) := by
        by_cases q : s < i
        · rw [if_pos q, if_pos (by omega)]
        · rw [if_neg q, if_neg (by omega)]
      rw [hif]
      refine ⟨([.ref 98, .int (nI (l.getD s 0)), .int y, .int (nI 0), .int (nI (if s < i then 1 else 0)), .int (nI (i + 1)), .null], hSetI h1 138 i (-1)), ?_, _, rfl, Fr_trans f1 f2, fun k hk => ?_, fun q => by rw [hI_setI, if_neg (by omega)]; exact g2 (by omega)⟩
      · have m10 : ¬ (-1 : Int32) = 0 := by decide
        generalize l.getD i 0 = yy at *
        generalize l.getD s 0 = zz at *
        generalize hg : hSetI h1 138 i (-1) = h2 at *
        simp (disch := first | assumption | omega) [lstp, lc_M_steps_1, lb_M_steps_1, lu_M_steps_1, j_meth, j_out, j_rok, j_pad, lg_sl, s_seq_w, isN_inl, isN_inr, s_if, jb, x_c, x_iloc, x_aloc, x_lloc, x_bin, x_un, o_add, o_sub, o_mul, o_and, o_or, o_xor, o_shl, o_shr, o_ushr, o_max, o_min, o_i2b, o_i2c, o_i2l, o_l2i, x_fld, j_fget, x_idx, j_aget, x_len, j_alen, x_ofb, x_ite, xs_nil, xs_cons, x_callv, x_calls, s_callv, s_calls, j_recv, j_ret, j_retv, b_cmp, b_and, b_or, b_not, b_ofi, b_ite, b_true, s_skip, s_set, j_ty, j_lset, j_kill, s_inc, s_fput, j_fput, s_fop, s_aput, j_aput, j_nar, s_aop, s_ret, s_retv, s_go, s_pop, x_linc, x_finc, Value.category, if_icmp.holds, List.flatMap_cons, List.flatMap_nil, List.length_cons, List.length_append, List.length_nil, List.set_cons_succ, List.set_cons_zero, List.getElem?_cons_succ, List.getElem?_cons_zero, List.replicate, ite_and', ite_or', ite_int', nI_leI, nI_ltI, nI_eq, nI_add, nI_1, pk_mul, nI_clamp, n_in', nI_pos', nI_pos, n_m1e, n_01, n_10, sT_98, sT_99, sT_100, sT_101, sT_102, sT_103, sT_104, sT_105, sT_106, sT_107, sT_108, sT_109, sT_110, sT_111, sT_112, sT_113, sT_114, sT_115, sT_116, sT_117, sT_118, sT_119, sT_120, sT_121, sT_122, sT_123, sT_124, sT_125, sT_126, sT_127, sT_128, sT_129, sT_130, sT_131, sT_132, sT_133, sT_134, sT_135, sT_136, sT_137, sT_138, sT_139, sT_140, sR_98_1, sR_98_4, sR_98_5, sR_98_6, sR_98_7, sR_98_8, sR_98_9, sR_98_10, sR_98_12, sR_98_13, sR_98_14, sR_98_15, sR_98_16, sR_98_17, sR_98_18, sR_98_19, sR_98_20, sR_98_21, sR_98_22, sR_98_23, sR_98_24, sR_98_25, sR_98_26, sR_98_27, sR_98_28, sR_98_29, sR_98_31, sR_98_34, sR_98_35, sR_98_36, sR_98_42, sR_98_44, sR_98_45, sR_98_47, sR_98_49, sR_98_51, sR_98_56, sR_98_58, sR_98_62, sR_98_65, sR_98_66, sR_98_69, rs1.1, hi, c, hne, hg, d1, m10]
      · rw [hI_setI]
        by_cases e2 : k = i
        · rw [if_pos ⟨rfl, e2⟩, if_neg (by omega)]
        · rw [if_neg (by omega)]; exact g1 k (by omega)
  · rintro st ⟨h1, rfl, f1, g1, g2⟩
    have hs1 := (MW_st m f1).2.1.1
    have rs1 := RSt_fr rs f1 (by unfold Wst; intro a k; omega)
    rw [if_pos hs]
    refine ⟨_, ?_, h1, .int (nI l.length), rfl, f1, fun i hi => ?_, fun a ha => ?_⟩
    · generalize l.getD s 0 = zz at *
      simp (disch := first | assumption | omega) [lstp, lc_M_steps_1, lb_M_steps_1, lu_M_steps_1, j_meth, j_out, j_rok, j_pad, lg_sl, s_seq_w, isN_inl, isN_inr, s_if, jb, x_c, x_iloc, x_aloc, x_lloc, x_bin, x_un, o_add, o_sub, o_mul, o_and, o_or, o_xor, o_shl, o_shr, o_ushr, o_max, o_min, o_i2b, o_i2c, o_i2l, o_l2i, x_fld, j_fget, x_idx, j_aget, x_len, j_alen, x_ofb, x_ite, xs_nil, xs_cons, x_callv, x_calls, s_callv, s_calls, j_recv, j_ret, j_retv, b_cmp, b_and, b_or, b_not, b_ofi, b_ite, b_true, s_skip, s_set, j_ty, j_lset, j_kill, s_inc, s_fput, j_fput, s_fop, s_aput, j_aput, j_nar, s_aop, s_ret, s_retv, s_go, s_pop, x_linc, x_finc, Value.category, if_icmp.holds, List.flatMap_cons, List.flatMap_nil, List.length_cons, List.length_append, List.length_nil, List.set_cons_succ, List.set_cons_zero, List.getElem?_cons_succ, List.getElem?_cons_zero, List.replicate, ite_and', ite_or', ite_int', nI_leI, nI_ltI, nI_eq, nI_add, nI_1, pk_mul, nI_clamp, n_in', nI_pos', nI_pos, n_m1e, n_01, n_10, sT_98, sT_99, sT_100, sT_101, sT_102, sT_103, sT_104, sT_105, sT_106, sT_107, sT_108, sT_109, sT_110, sT_111, sT_112, sT_113, sT_114, sT_115, sT_116, sT_117, sT_118, sT_119, sT_120, sT_121, sT_122, sT_123, sT_124, sT_125, sT_126, sT_127, sT_128, sT_129, sT_130, sT_131, sT_132, sT_133, sT_134, sT_135, sT_136, sT_137, sT_138, sT_139, sT_140, sR_98_1, sR_98_4, sR_98_5, sR_98_6, sR_98_7, sR_98_8, sR_98_9, sR_98_10, sR_98_12, sR_98_13, sR_98_14, sR_98_15, sR_98_16, sR_98_17, sR_98_18, sR_98_19, sR_98_20, sR_98_21, sR_98_22, sR_98_23, sR_98_24, sR_98_25, sR_98_26, sR_98_27, sR_98_28, sR_98_29, sR_98_31, sR_98_34, sR_98_35, sR_98_36, sR_98_42, sR_98_44, sR_98_45, sR_98_47, sR_98_49, sR_98_51, sR_98_56, sR_98_58, sR_98_62, sR_98_65, sR_98_66, sR_98_69, rs1.1]
    · rw [g1 i hi]
      by_cases e : i = s
      · simp [e]
      · simp [e]
    · simp only [List.length_singleton] at ha
      have : a = 0 := by omega
      subst this
      exact g2 hs

theorem o_M_steps {A : AS} {tx : List Nat} {rw : List Int32} {h : jHp} (r : RMX A tx rw h) (hall : ∀ S, S < 2 ^ aNb A → sStd A S = true → S ∈ sAllR A) (hnd : (sAllR A).Nodup) (x y : Int32) : ∃ h', f_M_steps [.ref 98, .int x, .int y] h = some (some (.int (vSteps A x y)), h') ∧ RMX A tx rw h' ∧ Fr WM h h' := by
  have hs := r.1.1
  have w := r.1.2.1
  have hp := p20 w
  have r0 := RMX_33 r (nI 0)
  have m0 := op_33 r
  have hs0 := r0.1.1
  have ex := e_M_isSet hs0 w r0.1.2.2.2.1 x
  have ey := e_M_isSet hs0 w r0.1.2.2.2.1 y
  have k0 := r0.1
  have t0 := r0.2.1
  have rw0 := r0.2.2.2.1
  generalize hh0 : hSetI h 98 33 (nI 0) = h0 at *
  have bad : ∀ h1, MW Wop A h h1 → RRw rw h1 → ¬ ((j_in x (2 ^ aNb A) = true ∧ j_in y (2 ^ aNb A) = true) ∧ sStd A x.toNatClampNeg = true ∧ sStd A y.toNatClampNeg = true) → f_M_steps [.ref 98, .int x, .int y] h = some (some (.int (-1)), h1) → ∃ h', f_M_steps [.ref 98, .int x, .int y] h = some (some (.int (vSteps A x y)), h') ∧ RMX A tx rw h' ∧ Fr WM h h' := by
    intro h1 m1 rr1 hn he
    have hv : vSteps A x y = -1 := if_neg hn
    rw [hv]
    exact ⟨h1, he, op_fin r m1 rr1⟩
  by_cases hx : j_in x (2 ^ aNb A) = true
  case neg => rw [if_neg hx] at ex; exact bad h0 m0 rw0 (fun q => hx q.1.1) (by simp (disch := first | assumption | omega) [f_M_steps, body_M_steps, j_meth, j_out, j_rok, j_pad, lg_sl, s_seq_w, isN_inl, isN_inr, s_if, jb, x_c, x_iloc, x_aloc, x_lloc, x_bin, x_un, o_add, o_sub, o_mul, o_and, o_or, o_xor, o_shl, o_shr, o_ushr, o_max, o_min, o_i2b, o_i2c, o_i2l, o_l2i, x_fld, j_fget, x_idx, j_aget, x_len, j_alen, x_ofb, x_ite, xs_nil, xs_cons, x_callv, x_calls, s_callv, s_calls, j_recv, j_ret, j_retv, b_cmp, b_and, b_or, b_not, b_ofi, b_ite, b_true, s_skip, s_set, j_ty, j_lset, j_kill, s_inc, s_fput, j_fput, s_fop, s_aput, j_aput, j_nar, s_aop, s_ret, s_retv, s_go, s_pop, x_linc, x_finc, Value.category, if_icmp.holds, List.flatMap_cons, List.flatMap_nil, List.length_cons, List.length_append, List.length_nil, List.set_cons_succ, List.set_cons_zero, List.getElem?_cons_succ, List.getElem?_cons_zero, List.replicate, ite_and', ite_or', ite_int', nI_leI, nI_ltI, nI_eq, nI_add, nI_1, pk_mul, nI_clamp, n_in', nI_pos', nI_pos, n_m1e, n_01, n_10, sT_98, sT_99, sT_100, sT_101, sT_102, sT_103, sT_104, sT_105, sT_106, sT_107, sT_108, sT_109, sT_110, sT_111, sT_112, sT_113, sT_114, sT_115, sT_116, sT_117, sT_118, sT_119, sT_120, sT_121, sT_122, sT_123, sT_124, sT_125, sT_126, sT_127, sT_128, sT_129, sT_130, sT_131, sT_132, sT_133, sT_134, sT_135, sT_136, sT_137, sT_138, sT_139, sT_140, sR_98_1, sR_98_4, sR_98_5, sR_98_6, sR_98_7, sR_98_8, sR_98_9, sR_98_10, sR_98_12, sR_98_13, sR_98_14, sR_98_15, sR_98_16, sR_98_17, sR_98_18, sR_98_19, sR_98_20, sR_98_21, sR_98_22, sR_98_23, sR_98_24, sR_98_25, sR_98_26, sR_98_27, sR_98_28, sR_98_29, sR_98_31, sR_98_34, sR_98_35, sR_98_36, sR_98_42, sR_98_44, sR_98_45, sR_98_47, sR_98_49, sR_98_51, sR_98_56, sR_98_58, sR_98_62, sR_98_65, sR_98_66, sR_98_69, hh0, ex])
  rw [if_pos hx] at ex
  by_cases hy : j_in y (2 ^ aNb A) = true
  case neg => rw [if_neg hy] at ey; exact bad h0 m0 rw0 (fun q => hy q.1.2) (by simp (disch := first | assumption | omega) [f_M_steps, body_M_steps, j_meth, j_out, j_rok, j_pad, lg_sl, s_seq_w, isN_inl, isN_inr, s_if, jb, x_c, x_iloc, x_aloc, x_lloc, x_bin, x_un, o_add, o_sub, o_mul, o_and, o_or, o_xor, o_shl, o_shr, o_ushr, o_max, o_min, o_i2b, o_i2c, o_i2l, o_l2i, x_fld, j_fget, x_idx, j_aget, x_len, j_alen, x_ofb, x_ite, xs_nil, xs_cons, x_callv, x_calls, s_callv, s_calls, j_recv, j_ret, j_retv, b_cmp, b_and, b_or, b_not, b_ofi, b_ite, b_true, s_skip, s_set, j_ty, j_lset, j_kill, s_inc, s_fput, j_fput, s_fop, s_aput, j_aput, j_nar, s_aop, s_ret, s_retv, s_go, s_pop, x_linc, x_finc, Value.category, if_icmp.holds, List.flatMap_cons, List.flatMap_nil, List.length_cons, List.length_append, List.length_nil, List.set_cons_succ, List.set_cons_zero, List.getElem?_cons_succ, List.getElem?_cons_zero, List.replicate, ite_and', ite_or', ite_int', nI_leI, nI_ltI, nI_eq, nI_add, nI_1, pk_mul, nI_clamp, n_in', nI_pos', nI_pos, n_m1e, n_01, n_10, sT_98, sT_99, sT_100, sT_101, sT_102, sT_103, sT_104, sT_105, sT_106, sT_107, sT_108, sT_109, sT_110, sT_111, sT_112, sT_113, sT_114, sT_115, sT_116, sT_117, sT_118, sT_119, sT_120, sT_121, sT_122, sT_123, sT_124, sT_125, sT_126, sT_127, sT_128, sT_129, sT_130, sT_131, sT_132, sT_133, sT_134, sT_135, sT_136, sT_137, sT_138, sT_139, sT_140, sR_98_1, sR_98_4, sR_98_5, sR_98_6, sR_98_7, sR_98_8, sR_98_9, sR_98_10, sR_98_12, sR_98_13, sR_98_14, sR_98_15, sR_98_16, sR_98_17, sR_98_18, sR_98_19, sR_98_20, sR_98_21, sR_98_22, sR_98_23, sR_98_24, sR_98_25, sR_98_26, sR_98_27, sR_98_28, sR_98_29, sR_98_31, sR_98_34, sR_98_35, sR_98_36, sR_98_42, sR_98_44, sR_98_45, sR_98_47, sR_98_49, sR_98_51, sR_98_56, sR_98_58, sR_98_62, sR_98_65, sR_98_66, sR_98_69, hh0, ex, ey])
  rw [if_pos hy] at ey
  obtain ⟨S, hS, rfl⟩ := j_in_ex hx (by omega)
  obtain ⟨T, hT, rfl⟩ := j_in_ex hy (by omega)
  have cS : (nI S).toNatClampNeg = S := nI_clamp (by omega)
  have cT' : (nI T).toNatClampNeg = T := nI_clamp (by omega)
  rw [cS, cT'] at bad
  obtain ⟨h1, e1, m1, -⟩ := e_M_judgeOf k0 t0 (S := S) (by omega)
  have m1' := MW_trans m0 (MW_mono m1 Wjd_op)
  have rr1 := RRw_mw rw0 m1 Wjd_rw
  have hs1 := m1.2.1.1
  have jl := sJdg_lt A S
  by_cases h1s : sStd A S = true
  case neg =>
    have hz : ¬ (sJdg A S).1 = 0 := by simpa [sStd] using h1s
    have hz' : ¬ nI (sJdg A S).1 = 0 := fun q => hz ((n_eq0 (by omega)).mp q)
    exact bad h1 m1' rr1 (fun q => h1s q.2.1) (by simp (disch := first | assumption | omega) [f_M_steps, body_M_steps, j_meth, j_out, j_rok, j_pad, lg_sl, s_seq_w, isN_inl, isN_inr, s_if, jb, x_c, x_iloc, x_aloc, x_lloc, x_bin, x_un, o_add, o_sub, o_mul, o_and, o_or, o_xor, o_shl, o_shr, o_ushr, o_max, o_min, o_i2b, o_i2c, o_i2l, o_l2i, x_fld, j_fget, x_idx, j_aget, x_len, j_alen, x_ofb, x_ite, xs_nil, xs_cons, x_callv, x_calls, s_callv, s_calls, j_recv, j_ret, j_retv, b_cmp, b_and, b_or, b_not, b_ofi, b_ite, b_true, s_skip, s_set, j_ty, j_lset, j_kill, s_inc, s_fput, j_fput, s_fop, s_aput, j_aput, j_nar, s_aop, s_ret, s_retv, s_go, s_pop, x_linc, x_finc, Value.category, if_icmp.holds, List.flatMap_cons, List.flatMap_nil, List.length_cons, List.length_append, List.length_nil, List.set_cons_succ, List.set_cons_zero, List.getElem?_cons_succ, List.getElem?_cons_zero, List.replicate, ite_and', ite_or', ite_int', nI_leI, nI_ltI, nI_eq, nI_add, nI_1, pk_mul, nI_clamp, n_in', nI_pos', nI_pos, n_m1e, n_01, n_10, sT_98, sT_99, sT_100, sT_101, sT_102, sT_103, sT_104, sT_105, sT_106, sT_107, sT_108, sT_109, sT_110, sT_111, sT_112, sT_113, sT_114, sT_115, sT_116, sT_117, sT_118, sT_119, sT_120, sT_121, sT_122, sT_123, sT_124, sT_125, sT_126, sT_127, sT_128, sT_129, sT_130, sT_131, sT_132, sT_133, sT_134, sT_135, sT_136, sT_137, sT_138, sT_139, sT_140, sR_98_1, sR_98_4, sR_98_5, sR_98_6, sR_98_7, sR_98_8, sR_98_9, sR_98_10, sR_98_12, sR_98_13, sR_98_14, sR_98_15, sR_98_16, sR_98_17, sR_98_18, sR_98_19, sR_98_20, sR_98_21, sR_98_22, sR_98_23, sR_98_24, sR_98_25, sR_98_26, sR_98_27, sR_98_28, sR_98_29, sR_98_31, sR_98_34, sR_98_35, sR_98_36, sR_98_42, sR_98_44, sR_98_45, sR_98_47, sR_98_49, sR_98_51, sR_98_56, sR_98_58, sR_98_62, sR_98_65, sR_98_66, sR_98_69, hh0, ex, ey, e1, hz'])
  have hz : (sJdg A S).1 = 0 := by simpa [sStd] using h1s
  rw [hz, nI_0] at e1
  obtain ⟨h2, e2, m2, -⟩ := e_M_judgeOf m1.2.1 m1.2.2 (S := T) (by omega)
  have m2' := MW_trans m1' (MW_mono m2 Wjd_op)
  have rr2 := RRw_mw rr1 m2 Wjd_rw
  have hs2 := m2.2.1.1
  have jl2 := sJdg_lt A T
  by_cases h2s : sStd A T = true
  case neg =>
    have hz2 : ¬ (sJdg A T).1 = 0 := by simpa [sStd] using h2s
    have hz2' : ¬ nI (sJdg A T).1 = 0 := fun q => hz2 ((n_eq0 (by omega)).mp q)
    exact bad h2 m2' rr2 (fun q => h2s q.2.2) (by simp (disch := first | assumption | omega) [f_M_steps, body_M_steps, j_meth, j_out, j_rok, j_pad, lg_sl, s_seq_w, isN_inl, isN_inr, s_if, jb, x_c, x_iloc, x_aloc, x_lloc, x_bin, x_un, o_add, o_sub, o_mul, o_and, o_or, o_xor, o_shl, o_shr, o_ushr, o_max, o_min, o_i2b, o_i2c, o_i2l, o_l2i, x_fld, j_fget, x_idx, j_aget, x_len, j_alen, x_ofb, x_ite, xs_nil, xs_cons, x_callv, x_calls, s_callv, s_calls, j_recv, j_ret, j_retv, b_cmp, b_and, b_or, b_not, b_ofi, b_ite, b_true, s_skip, s_set, j_ty, j_lset, j_kill, s_inc, s_fput, j_fput, s_fop, s_aput, j_aput, j_nar, s_aop, s_ret, s_retv, s_go, s_pop, x_linc, x_finc, Value.category, if_icmp.holds, List.flatMap_cons, List.flatMap_nil, List.length_cons, List.length_append, List.length_nil, List.set_cons_succ, List.set_cons_zero, List.getElem?_cons_succ, List.getElem?_cons_zero, List.replicate, ite_and', ite_or', ite_int', nI_leI, nI_ltI, nI_eq, nI_add, nI_1, pk_mul, nI_clamp, n_in', nI_pos', nI_pos, n_m1e, n_01, n_10, sT_98, sT_99, sT_100, sT_101, sT_102, sT_103, sT_104, sT_105, sT_106, sT_107, sT_108, sT_109, sT_110, sT_111, sT_112, sT_113, sT_114, sT_115, sT_116, sT_117, sT_118, sT_119, sT_120, sT_121, sT_122, sT_123, sT_124, sT_125, sT_126, sT_127, sT_128, sT_129, sT_130, sT_131, sT_132, sT_133, sT_134, sT_135, sT_136, sT_137, sT_138, sT_139, sT_140, sR_98_1, sR_98_4, sR_98_5, sR_98_6, sR_98_7, sR_98_8, sR_98_9, sR_98_10, sR_98_12, sR_98_13, sR_98_14, sR_98_15, sR_98_16, sR_98_17, sR_98_18, sR_98_19, sR_98_20, sR_98_21, sR_98_22, sR_98_23, sR_98_24, sR_98_25, sR_98_26, sR_98_27, sR_98_28, sR_98_29, sR_98_31, sR_98_34, sR_98_35, sR_98_36, sR_98_42, sR_98_44, sR_98_45, sR_98_47, sR_98_49, sR_98_51, sR_98_56, sR_98_58, sR_98_62, sR_98_65, sR_98_66, sR_98_69, hh0, ex, ey, e1, e2, hz2'])
  have hz2 : (sJdg A T).1 = 0 := by simpa [sStd] using h2s
  rw [hz2, nI_0] at e2
  clear bad
  have hv : vSteps A (nI S) (nI T) = (match dst (nxL A (sAllR A)) (sAllR A).length (idxL (sAllR A) S) (idxL (sAllR A) T) with
    | some d => nI d
    | none => -2) := by
    unfold vSteps
    rw [cS, cT', if_pos ⟨⟨hx, hy⟩, h1s, h2s⟩]
  rw [hv]
  clear hv
  obtain ⟨h3, e3, m3, rs3⟩ := e_M_findAll (A := A) (h0 := h2) (h := h2) (MW_refl m2.2.1 m2.2.2)
  have m3' := MW_trans m2' (MW_mono m3 Wgt_op)
  have rr3 := RRw_mw rr2 m3 Wgt_rw
  have hll := sAllR_len w
  obtain ⟨i1, i2, -⟩ := idxL_ok (hall S hS h1s)
  obtain ⟨j1, j2, -⟩ := idxL_ok (hall T hT h2s)
  generalize hl : sAllR A = l at *
  generalize hsi : idxL l S = s at *
  generalize hti : idxL l T = t at *
  obtain ⟨h4, v4, e4, f4, rb4⟩ := e_st_1 m3' rs3 hll hnd i1 (nI T)
  rw [i2] at e4
  have m4 := MW_st m3' f4
  have rs4 := RSt_fr rs3 f4 (by unfold Wst; intro a k; omega)
  have rr4 : RRw rw h4 := RRw_eq rr3 (Fr_I f4 (by unfold Wst; omega)) (fun k => Fr_I f4 (by unfold Wst; omega))
  have hinj : ∀ k, k < l.length → l.getD k 0 = T → k = t := by
    intro k hk e
    rw [← j2] at e
    simp only [List.getD_eq_getElem?_getD, List.getElem?_eq_getElem hk, List.getElem?_eq_getElem j1, Option.getD_some] at e
    rcases Nat.lt_trichotomy k t with q | q | q
    · exact absurd e (List.pairwise_iff_getElem.mp hnd k t hk j1 q)
    · exact q
    · exact absurd e.symm (List.pairwise_iff_getElem.mp hnd t k j1 hk q)
  have hX := loop_ind (lb := 3) (lc := 4) (c := lc_M_steps_2) (b := lb_M_steps_2) (u := lu_M_steps_2) (fun (z : (Nat × List Nat × (Nat → Nat)) × jHp × Value × Value) => (([.ref 98, .int (nI S), .int (nI T), .int (nI z.1.1), .int (nI z.1.2.1.length), z.2.2.1, z.2.2.2], z.2.1) : jS))
    (fun z => BIn (nxL A l) l.length s z.1.2.1 z.1.2.2 z.1.1 ∧ Fr Wst h4 z.2.1 ∧ RBf l.length z.1.2.1 z.1.2.2 z.2.1 ∧ ∀ a, a < z.1.1 → z.1.2.1.getD a 0 ≠ t)
    (fun _ q => ∃ h' L, Fr Wst h4 h' ∧ ((∃ d, dst (nxL A l) l.length s t = some d ∧ q = (.inr (some (.int (nI d))), (L, h'))) ∨ (dst (nxL A l) l.length s t = none ∧ q = (.inl 0, (L, h')))))
    (fun z => l.length - z.1.1) ?_ ((0, [s], fun _ => 0), h4, v4, .null) ⟨BIn_ini _ i1, Fr_refl _ _, rb4, fun a ha => by simp at ha⟩
  · obtain ⟨q, e5, h5, L, f5, ⟨d, hd, rfl⟩ | ⟨hd, rfl⟩⟩ := hX
    · rw [hd]
      refine ⟨h5, ?_, op_fin r (MW_st m4 f5) (RRw_eq rr4 (Fr_I f5 (by unfold Wst; omega)) (fun k => Fr_I f5 (by unfold Wst; omega)))⟩
      simp only [List.length_singleton, nI_0] at e4 e5
      have hh0' : hSetI h 98 33 0 = h0 := by rw [← hh0, nI_0]
      simp (disch := first | assumption | omega) [f_M_steps, body_M_steps, j_meth, j_out, j_rok, j_pad, lg_sl, s_seq_w, isN_inl, isN_inr, s_if, jb, x_c, x_iloc, x_aloc, x_lloc, x_bin, x_un, o_add, o_sub, o_mul, o_and, o_or, o_xor, o_shl, o_shr, o_ushr, o_max, o_min, o_i2b, o_i2c, o_i2l, o_l2i, x_fld, j_fget, x_idx, j_aget, x_len, j_alen, x_ofb, x_ite, xs_nil, xs_cons, x_callv, x_calls, s_callv, s_calls, j_recv, j_ret, j_retv, b_cmp, b_and, b_or, b_not, b_ofi, b_ite, b_true, s_skip, s_set, j_ty, j_lset, j_kill, s_inc, s_fput, j_fput, s_fop, s_aput, j_aput, j_nar, s_aop, s_ret, s_retv, s_go, s_pop, x_linc, x_finc, Value.category, if_icmp.holds, List.flatMap_cons, List.flatMap_nil, List.length_cons, List.length_append, List.length_nil, List.set_cons_succ, List.set_cons_zero, List.getElem?_cons_succ, List.getElem?_cons_zero, List.replicate, ite_and', ite_or', ite_int', nI_leI, nI_ltI, nI_eq, nI_add, nI_1, pk_mul, nI_clamp, n_in', nI_pos', nI_pos, n_m1e, n_01, n_10, sT_98, sT_99, sT_100, sT_101, sT_102, sT_103, sT_104, sT_105, sT_106, sT_107, sT_108, sT_109, sT_110, sT_111, sT_112, sT_113, sT_114, sT_115, sT_116, sT_117, sT_118, sT_119, sT_120, sT_121, sT_122, sT_123, sT_124, sT_125, sT_126, sT_127, sT_128, sT_129, sT_130, sT_131, sT_132, sT_133, sT_134, sT_135, sT_136, sT_137, sT_138, sT_139, sT_140, sR_98_1, sR_98_4, sR_98_5, sR_98_6, sR_98_7, sR_98_8, sR_98_9, sR_98_10, sR_98_12, sR_98_13, sR_98_14, sR_98_15, sR_98_16, sR_98_17, sR_98_18, sR_98_19, sR_98_20, sR_98_21, sR_98_22, sR_98_23, sR_98_24, sR_98_25, sR_98_26, sR_98_27, sR_98_28, sR_98_29, sR_98_31, sR_98_34, sR_98_35, sR_98_36, sR_98_42, sR_98_44, sR_98_45, sR_98_47, sR_98_49, sR_98_51, sR_98_56, sR_98_58, sR_98_62, sR_98_65, sR_98_66, sR_98_69, nI_0, hh0', ex, ey, e1, e2, e3, e4, e5]
    · rw [hd]
      refine ⟨h5, ?_, op_fin r (MW_st m4 f5) (RRw_eq rr4 (Fr_I f5 (by unfold Wst; omega)) (fun k => Fr_I f5 (by unfold Wst; omega)))⟩
      simp only [List.length_singleton, nI_0] at e4 e5
      have hh0' : hSetI h 98 33 0 = h0 := by rw [← hh0, nI_0]
      simp (disch := first | assumption | omega) [f_M_steps, body_M_steps, j_meth, j_out, j_rok, j_pad, lg_sl, s_seq_w, isN_inl, isN_inr, s_if, jb, x_c, x_iloc, x_aloc, x_lloc, x_bin, x_un, o_add, o_sub, o_mul, o_and, o_or, o_xor, o_shl, o_shr, o_ushr, o_max, o_min, o_i2b, o_i2c, o_i2l, o_l2i, x_fld, j_fget, x_idx, j_aget, x_len, j_alen, x_ofb, x_ite, xs_nil, xs_cons, x_callv, x_calls, s_callv, s_calls, j_recv, j_ret, j_retv, b_cmp, b_and, b_or, b_not, b_ofi, b_ite, b_true, s_skip, s_set, j_ty, j_lset, j_kill, s_inc, s_fput, j_fput, s_fop, s_aput, j_aput, j_nar, s_aop, s_ret, s_retv, s_go, s_pop, x_linc, x_finc, Value.category, if_icmp.holds, List.flatMap_cons, List.flatMap_nil, List.length_cons, List.length_append, List.length_nil, List.set_cons_succ, List.set_cons_zero, List.getElem?_cons_succ, List.getElem?_cons_zero, List.replicate, ite_and', ite_or', ite_int', nI_leI, nI_ltI, nI_eq, nI_add, nI_1, pk_mul, nI_clamp, n_in', nI_pos', nI_pos, n_m1e, n_01, n_10, sT_98, sT_99, sT_100, sT_101, sT_102, sT_103, sT_104, sT_105, sT_106, sT_107, sT_108, sT_109, sT_110, sT_111, sT_112, sT_113, sT_114, sT_115, sT_116, sT_117, sT_118, sT_119, sT_120, sT_121, sT_122, sT_123, sT_124, sT_125, sT_126, sT_127, sT_128, sT_129, sT_130, sT_131, sT_132, sT_133, sT_134, sT_135, sT_136, sT_137, sT_138, sT_139, sT_140, sR_98_1, sR_98_4, sR_98_5, sR_98_6, sR_98_7, sR_98_8, sR_98_9, sR_98_10, sR_98_12, sR_98_13, sR_98_14, sR_98_15, sR_98_16, sR_98_17, sR_98_18, sR_98_19, sR_98_20, sR_98_21, sR_98_22, sR_98_23, sR_98_24, sR_98_25, sR_98_26, sR_98_27, sR_98_28, sR_98_29, sR_98_31, sR_98_34, sR_98_35, sR_98_36, sR_98_42, sR_98_44, sR_98_45, sR_98_47, sR_98_49, sR_98_51, sR_98_56, sR_98_58, sR_98_62, sR_98_65, sR_98_66, sR_98_69, nI_0, hh0', ex, ey, e1, e2, e3, e4, e5]
  · rintro ⟨⟨hd, Q, far⟩, h5, v5, v6⟩ ⟨b, f5, rb5, hnt⟩
    simp only at b f5 rb5 hnt ⊢
    have m5 := MW_st m4 f5
    have hs5 := m5.2.1.1
    have rs5 := RSt_fr rs4 f5 (by unfold Wst; intro a k; omega)
    have hQl : Q.length ≤ l.length := nd_le b.1 b.2.1
    have hdl := b.2.2.2.2.2.2.2.2
    by_cases hh : hd < Q.length
    · have huQ : Q.getD hd 0 ∈ Q := getD_mem' hh
      have huN := b.2.1 _ huQ
      have cq := rb5.2 hd hh
      have cu := rb5.1 _ huN
      rw [if_pos huQ] at cu
      have gu := rs5.2.1 _ huN
      have xu := rs5.2.2 _ (getD_mem' (d := 0) huN)
      have hfar : ∀ i ∈ Q, far i < 2 ^ 30 := fun i hi => by
        obtain ⟨a, ha, hae⟩ := mem_getD hi
        have := b.2.2.2.2.2.1 a ha
        rw [hae] at this
        omega
      by_cases htt : Q.getD hd 0 = t
      · right
        have hfnd := BIn_found b huQ
        rw [htt] at hfnd cu gu cq
        rw [j2] at gu
        refine ⟨(.inr (some (.int (nI (far t)))), ([.ref 98, .int (nI S), .int (nI T), .int (nI (hd + 1)), .int (nI Q.length), .int (nI t), v6], h5)), ?_, h5, _, f5, Or.inl ⟨far t, hfnd, rfl⟩⟩
        simp (disch := first | assumption | omega) [lstp, lc_M_steps_2, lb_M_steps_2, lu_M_steps_2, j_meth, j_out, j_rok, j_pad, lg_sl, s_seq_w, isN_inl, isN_inr, s_if, jb, x_c, x_iloc, x_aloc, x_lloc, x_bin, x_un, o_add, o_sub, o_mul, o_and, o_or, o_xor, o_shl, o_shr, o_ushr, o_max, o_min, o_i2b, o_i2c, o_i2l, o_l2i, x_fld, j_fget, x_idx, j_aget, x_len, j_alen, x_ofb, x_ite, xs_nil, xs_cons, x_callv, x_calls, s_callv, s_calls, j_recv, j_ret, j_retv, b_cmp, b_and, b_or, b_not, b_ofi, b_ite, b_true, s_skip, s_set, j_ty, j_lset, j_kill, s_inc, s_fput, j_fput, s_fop, s_aput, j_aput, j_nar, s_aop, s_ret, s_retv, s_go, s_pop, x_linc, x_finc, Value.category, if_icmp.holds, List.flatMap_cons, List.flatMap_nil, List.length_cons, List.length_append, List.length_nil, List.set_cons_succ, List.set_cons_zero, List.getElem?_cons_succ, List.getElem?_cons_zero, List.replicate, ite_and', ite_or', ite_int', nI_leI, nI_ltI, nI_eq, nI_add, nI_1, pk_mul, nI_clamp, n_in', nI_pos', nI_pos, n_m1e, n_01, n_10, sT_98, sT_99, sT_100, sT_101, sT_102, sT_103, sT_104, sT_105, sT_106, sT_107, sT_108, sT_109, sT_110, sT_111, sT_112, sT_113, sT_114, sT_115, sT_116, sT_117, sT_118, sT_119, sT_120, sT_121, sT_122, sT_123, sT_124, sT_125, sT_126, sT_127, sT_128, sT_129, sT_130, sT_131, sT_132, sT_133, sT_134, sT_135, sT_136, sT_137, sT_138, sT_139, sT_140, sR_98_1, sR_98_4, sR_98_5, sR_98_6, sR_98_7, sR_98_8, sR_98_9, sR_98_10, sR_98_12, sR_98_13, sR_98_14, sR_98_15, sR_98_16, sR_98_17, sR_98_18, sR_98_19, sR_98_20, sR_98_21, sR_98_22, sR_98_23, sR_98_24, sR_98_25, sR_98_26, sR_98_27, sR_98_28, sR_98_29, sR_98_31, sR_98_34, sR_98_35, sR_98_36, sR_98_42, sR_98_44, sR_98_45, sR_98_47, sR_98_49, sR_98_51, sR_98_56, sR_98_58, sR_98_62, sR_98_65, sR_98_66, sR_98_69, hh, cq, gu, cu]
      · left
        have hne : ¬ l.getD (Q.getD hd 0) 0 = T := fun q => htt (hinj _ huN q)
        obtain ⟨h6, v7, e6, f6, rb6⟩ := e_st_3 m5 rs5 hll b.1 b.2.1 rb5 huQ hfar (nI S) (nI T) (nI (hd + 1))
        have b' := BIn_step (ns := nsL (nxL A l) Q (Q.getD hd 0) l.length) b hh (nsL_nd _ _ _ _) (fun j hj => nsL_mem.mp hj) (fun j hj hn => by
          by_cases q : j ∈ Q
          · exact Or.inl q
          · exact Or.inr (nsL_mem.mpr ⟨hj, q, hn⟩))
        refine ⟨((hd + 1, Q ++ nsL (nxL A l) Q (Q.getD hd 0) l.length, fun j => if j ∈ Q then far j else far (Q.getD hd 0) + 1), h6, .int (nI (Q.getD hd 0)), v7), ⟨b', Fr_trans f5 f6, rb6, fun a ha => ?_⟩, by simp only; omega, ?_, fun r hr => hr⟩
        · simp only at ha ⊢
          have : (Q ++ nsL (nxL A l) Q (Q.getD hd 0) l.length).getD a 0 = Q.getD a 0 := by
            simp only [List.getD_eq_getElem?_getD]
            rw [List.getElem?_append_left (by omega)]
          rw [this]
          by_cases e : a = hd
          · rw [e]; exact htt
          · exact hnt a (by omega)
        · simp only [nI_0] at e6
          generalize hLL : (Q ++ nsL (nxL A l) Q (Q.getD hd 0) l.length).length = LL at *
          generalize Q.getD hd 0 = u at *
          generalize l.getD u 0 = lu at *
          simp (disch := first | assumption | omega) [lstp, lc_M_steps_2, lb_M_steps_2, lu_M_steps_2, j_meth, j_out, j_rok, j_pad, lg_sl, s_seq_w, isN_inl, isN_inr, s_if, jb, x_c, x_iloc, x_aloc, x_lloc, x_bin, x_un, o_add, o_sub, o_mul, o_and, o_or, o_xor, o_shl, o_shr, o_ushr, o_max, o_min, o_i2b, o_i2c, o_i2l, o_l2i, x_fld, j_fget, x_idx, j_aget, x_len, j_alen, x_ofb, x_ite, xs_nil, xs_cons, x_callv, x_calls, s_callv, s_calls, j_recv, j_ret, j_retv, b_cmp, b_and, b_or, b_not, b_ofi, b_ite, b_true, s_skip, s_set, j_ty, j_lset, j_kill, s_inc, s_fput, j_fput, s_fop, s_aput, j_aput, j_nar, s_aop, s_ret, s_retv, s_go, s_pop, x_linc, x_finc, Value.category, if_icmp.holds, List.flatMap_cons, List.flatMap_nil, List.length_cons, List.length_append, List.length_nil, List.set_cons_succ, List.set_cons_zero, List.getElem?_cons_succ, List.getElem?_cons_zero, List.replicate, ite_and', ite_or', ite_int', nI_leI, nI_ltI, nI_eq, nI_add, nI_1, pk_mul, nI_clamp, n_in', nI_pos', nI_pos, n_m1e, n_01, n_10, sT_98, sT_99, sT_100, sT_101, sT_102, sT_103, sT_104, sT_105, sT_106, sT_107, sT_108, sT_109, sT_110, sT_111, sT_112, sT_113, sT_114, sT_115, sT_116, sT_117, sT_118, sT_119, sT_120, sT_121, sT_122, sT_123, sT_124, sT_125, sT_126, sT_127, sT_128, sT_129, sT_130, sT_131, sT_132, sT_133, sT_134, sT_135, sT_136, sT_137, sT_138, sT_139, sT_140, sR_98_1, sR_98_4, sR_98_5, sR_98_6, sR_98_7, sR_98_8, sR_98_9, sR_98_10, sR_98_12, sR_98_13, sR_98_14, sR_98_15, sR_98_16, sR_98_17, sR_98_18, sR_98_19, sR_98_20, sR_98_21, sR_98_22, sR_98_23, sR_98_24, sR_98_25, sR_98_26, sR_98_27, sR_98_28, sR_98_29, sR_98_31, sR_98_34, sR_98_35, sR_98_36, sR_98_42, sR_98_44, sR_98_45, sR_98_47, sR_98_49, sR_98_51, sR_98_56, sR_98_58, sR_98_62, sR_98_65, sR_98_66, sR_98_69, hh, cq, gu, hne, nI_0, e6]
    · right
      have hhd : hd = Q.length := by omega
      subst hhd
      have htn : t ∉ Q := fun q => by
        obtain ⟨a, ha, hae⟩ := mem_getD q
        exact hnt a ha hae
      refine ⟨(.inl 0, ([.ref 98, .int (nI S), .int (nI T), .int (nI Q.length), .int (nI Q.length), v5, v6], h5)), ?_, h5, _, f5, Or.inr ⟨BIn_none b j1 htn, rfl⟩⟩
      simp (disch := first | assumption | omega) [lstp, lc_M_steps_2, lb_M_steps_2, lu_M_steps_2, j_meth, j_out, j_rok, j_pad, lg_sl, s_seq_w, isN_inl, isN_inr, s_if, jb, x_c, x_iloc, x_aloc, x_lloc, x_bin, x_un, o_add, o_sub, o_mul, o_and, o_or, o_xor, o_shl, o_shr, o_ushr, o_max, o_min, o_i2b, o_i2c, o_i2l, o_l2i, x_fld, j_fget, x_idx, j_aget, x_len, j_alen, x_ofb, x_ite, xs_nil, xs_cons, x_callv, x_calls, s_callv, s_calls, j_recv, j_ret, j_retv, b_cmp, b_and, b_or, b_not, b_ofi, b_ite, b_true, s_skip, s_set, j_ty, j_lset, j_kill, s_inc, s_fput, j_fput, s_fop, s_aput, j_aput, j_nar, s_aop, s_ret, s_retv, s_go, s_pop, x_linc, x_finc, Value.category, if_icmp.holds, List.flatMap_cons, List.flatMap_nil, List.length_cons, List.length_append, List.length_nil, List.set_cons_succ, List.set_cons_zero, List.getElem?_cons_succ, List.getElem?_cons_zero, List.replicate, ite_and', ite_or', ite_int', nI_leI, nI_ltI, nI_eq, nI_add, nI_1, pk_mul, nI_clamp, n_in', nI_pos', nI_pos, n_m1e, n_01, n_10, sT_98, sT_99, sT_100, sT_101, sT_102, sT_103, sT_104, sT_105, sT_106, sT_107, sT_108, sT_109, sT_110, sT_111, sT_112, sT_113, sT_114, sT_115, sT_116, sT_117, sT_118, sT_119, sT_120, sT_121, sT_122, sT_123, sT_124, sT_125, sT_126, sT_127, sT_128, sT_129, sT_130, sT_131, sT_132, sT_133, sT_134, sT_135, sT_136, sT_137, sT_138, sT_139, sT_140, sR_98_1, sR_98_4, sR_98_5, sR_98_6, sR_98_7, sR_98_8, sR_98_9, sR_98_10, sR_98_12, sR_98_13, sR_98_14, sR_98_15, sR_98_16, sR_98_17, sR_98_18, sR_98_19, sR_98_20, sR_98_21, sR_98_22, sR_98_23, sR_98_24, sR_98_25, sR_98_26, sR_98_27, sR_98_28, sR_98_29, sR_98_31, sR_98_34, sR_98_35, sR_98_36, sR_98_42, sR_98_44, sR_98_45, sR_98_47, sR_98_49, sR_98_51, sR_98_56, sR_98_58, sR_98_62, sR_98_65, sR_98_66, sR_98_69]
