/-! Standing.know -/
theorem e_W_every {A : AS} {h0 : jHp} (x0 : MV A (fun _ => 0) h0) (l0 : WLv A h0) (hg7 : hI h0 73 7 = 0) (hg : isG (hR h0 73 11)) (hra : hR h0 77 8 < hN h0) (fi : FI h0 [] h0) :
    ∃ h', f_W_step 30 [.ref 73, .int (nI 0), .int (nI 0), .int (nI 0), .int (nI (slM A (sWt A 0))), .int (nI 0)] h0 = some (some (.int 0), h') ∧ InE A h0 (sAllR A) h' := by
  have w := x0.1.1.2.1
  have hA : aMv A (fun _ => 0) = A := aMv_0 A _ fun _ => rfl
  have hW := wk_std w (fun _ => 0)
  rw [hA] at hW
  have hlen := sAllR_len w
  have := e_W_walk (A := A) (mv := fun _ => 0) (arE A) (InE A h0) (fun s h i => ⟨i.1, i.2.1⟩) (s := [])
    (fun pre S post s' h hWW hv oS i => by
      rw [vst_E] at hv
      have hs' : s' = pre.filter (sStd A) := by
        have := congrArg Prod.snd hv
        simpa using this.symm
      obtain ⟨h', e, i'⟩ := e_W_arrE x0 l0 hg7 hg hra oS i (fun hst => by
        rw [hWW] at hW
        have := congrArg List.length hW
        rw [List.filter_append, List.filter_cons_of_pos hst, List.length_append, List.length_cons, ← hs'] at this
        omega)
      exact ⟨h', e, i'⟩) (h := h0) ⟨x0, l0, hg7, fi⟩
  obtain ⟨h', e, i'⟩ := this
  rw [vst_E, hW] at e i'
  exact ⟨h', e, i'⟩
/-- ALL is known -/
def KNW (A : AS) (h : jHp) : Prop := ∃ fa fl sl ra rl so di qu co, CGr fa fl fa sl ra rl so di qu co h ∧ hI h 77 4 = 1 ∧ CKn A fa fl fa ra rl so h
theorem KNW_St {A : AS} {h : jHp} (k : KNW A h) : CSt A h := by
  obtain ⟨fa, fl, sl, ra, rl, so, di, qu, co, g, -, c⟩ := k
  exact ⟨fa, fl, fa, sl, ra, rl, so, di, qu, co, g, c⟩
noncomputable def kn_0 : jSt := (s_if (b_ofi (x_fld 9 0 4 (x_aloc 0))) s_retv s_skip)
noncomputable def kn_1 : jSt := (s_callv 5 f_Ma_readyWithoutMore (xs_cons (x_fld 9 1 2 (x_aloc 0)) xs_nil))
noncomputable def kn_2 : jSt := (s_callv 11 f_W_prepare (xs_cons (x_fld 9 1 3 (x_aloc 0)) (xs_cons (x_c (.int (nI 0))) xs_nil)))
noncomputable def kn_3 : jSt := (s_pop (x_callv 11 (f_W_step 30) (xs_cons (x_fld 9 1 3 (x_aloc 0)) (xs_cons (x_c (.int (nI 0))) (xs_cons (x_c (.int (nI 0))) (xs_cons (x_c (.int (nI 0))) (xs_cons (x_fld 11 0 8 (x_fld 9 1 3 (x_aloc 0))) (xs_cons (x_c (.int (nI 0))) xs_nil))))))))
noncomputable def kn_4 : jSt := (s_fput 9 1 0 6 (x_aloc 0) (x_fld 11 1 11 (x_fld 9 1 3 (x_aloc 0))))
noncomputable def kn_5 : jSt := (s_fput 9 0 0 7 (x_aloc 0) (x_fld 11 0 12 (x_fld 9 1 3 (x_aloc 0))))
noncomputable def kn_6 : jSt := (s_fput 9 0 1 5 (x_aloc 0) (x_c (.int (nI 0))))
noncomputable def kn_7 : jSt := (s_fput 9 0 1 4 (x_aloc 0) (x_c (.int (nI 1))))
noncomputable def kn_8 : jSt := s_retv
theorem St_know_s : f_St_know = j_meth 0 1 (s_seq kn_0 (s_seq kn_1 (s_seq kn_2 (s_seq kn_3 (s_seq kn_4 (s_seq kn_5 (s_seq kn_6 (s_seq kn_7 kn_8)))))))) := rfl
theorem Wpr_ok {a j : Nat} (q : Wpr a j) : okW a j := Or.inr (Or.inl (by unfold Wpr at q; omega))
theorem e_St_know {A : AS} {tx : List Nat} {rw : List Int32} {h : jHp} (r : RC A tx rw h) : ∃ h', f_St_know [.ref 77] h = some (none, h') ∧ RC A tx rw h' ∧ FC h h' ∧ KNW A h' := by
  have r0 := r
  obtain ⟨mk, ⟨ca, bl, d, sp⟩, c11, ct, cr, cs⟩ := r
  have hs := mk.1.1
  have w := mk.1.2.1
  obtain ⟨fa, fl, sa, sl, ra, rl, so, di, qu, co, cg, ck⟩ := cs
  have t77 := sT_77 hs
  have h10 : ((1 : Int32) = 0) = False := by decide
  rw [St_know_s]
  rcases ck with c4 | ⟨k4, k1, k2, k3, k5, k6⟩
  case inr =>
    subst k1
    refine ⟨h, ?_, r0, FC_refl h, sa, fl, sl, ra, rl, so, di, qu, co, cg, k4, Or.inr ⟨k4, rfl, k2, k3, k5, k6⟩⟩
    have e0 : kn_0 ([.ref 77], h) = some (.inr none, ([.ref 77], h)) := by
      simp (disch := first | assumption | omega) [kn_0, j_meth, j_out, j_rok, j_pad, lg_sl, s_seq_w, isN_inl, isN_inr, s_if, jb, x_c, x_iloc, x_aloc, x_lloc, x_bin, x_un, o_add, o_sub, o_mul, o_and, o_or, o_xor, o_shl, o_shr, o_ushr, o_max, o_min, o_i2b, o_i2c, o_i2l, o_l2i, x_fld, j_fget, x_idx, j_aget, x_len, j_alen, x_ofb, x_ite, xs_nil, xs_cons, x_callv, x_calls, s_callv, s_calls, j_recv, j_ret, j_retv, b_cmp, b_and, b_or, b_not, b_ofi, b_ite, b_true, s_skip, s_set, j_ty, j_lset, j_kill, s_inc, s_fput, j_fput, s_fop, s_aput, j_aput, j_nar, s_aop, s_ret, s_retv, s_go, s_pop, x_linc, x_finc, Value.category, if_icmp.holds, List.flatMap_cons, List.flatMap_nil, List.length_cons, List.length_append, List.length_nil, List.set_cons_succ, List.set_cons_zero, List.getElem?_cons_succ, List.getElem?_cons_zero, List.replicate, ite_and', ite_or', ite_int', nI_leI, nI_ltI, nI_eq, nI_add, nI_1, pk_mul, nI_clamp, n_in', nI_pos', nI_pos, n_m1e, n_01, n_10, sT_1, sR_1_0, sR_1_1, sR_1_2, sR_1_3, sR_1_4, sR_1_5, sR_1_6, sR_1_7, sR_1_8, sR_1_9, sT_2, sT_3, sT_4, sT_5, sT_6, sT_7, sT_8, sT_9, sT_10, sT_11, sT_12, sT_13, sT_14, sR_2_1, sR_2_2, sR_2_3, sR_2_4, sR_2_5, sR_2_6, sR_2_7, sR_2_8, sR_2_9, sR_2_10, sR_2_11, sR_2_12, sT_15, sT_16, sT_17, sT_18, sT_19, sT_20, sT_21, sT_22, sT_23, sR_15_1, sR_15_2, sR_15_3, sR_15_4, sR_15_5, sR_15_6, sR_15_7, sR_15_8, sT_24, sT_25, sT_26, sT_27, sT_28, sT_29, sR_24_1, sR_24_2, sR_24_3, sR_24_4, sR_24_5, sT_71, sT_72, sR_71_0, sR_71_1, sR_71_2, sR_71_3, sR_71_4, sT_73, sT_74, sT_75, sR_73_0, sR_73_1, sR_73_2, sR_73_3, sR_73_4, sR_73_5, sT_84, sT_85, sT_86, sT_87, sR_84_0, sR_84_1, sR_84_2, sR_84_3, sR_84_4, sR_84_5, sT_88, sT_89, sR_88_0, sT_90, sT_91, sR_90_0, t77, k4, h10]
    simp (disch := first | assumption | omega) [j_meth, j_out, j_rok, j_pad, lg_sl, s_seq_w, isN_inl, isN_inr, s_if, jb, x_c, x_iloc, x_aloc, x_lloc, x_bin, x_un, o_add, o_sub, o_mul, o_and, o_or, o_xor, o_shl, o_shr, o_ushr, o_max, o_min, o_i2b, o_i2c, o_i2l, o_l2i, x_fld, j_fget, x_idx, j_aget, x_len, j_alen, x_ofb, x_ite, xs_nil, xs_cons, x_callv, x_calls, s_callv, s_calls, j_recv, j_ret, j_retv, b_cmp, b_and, b_or, b_not, b_ofi, b_ite, b_true, s_skip, s_set, j_ty, j_lset, j_kill, s_inc, s_fput, j_fput, s_fop, s_aput, j_aput, j_nar, s_aop, s_ret, s_retv, s_go, s_pop, x_linc, x_finc, Value.category, if_icmp.holds, List.flatMap_cons, List.flatMap_nil, List.length_cons, List.length_append, List.length_nil, List.set_cons_succ, List.set_cons_zero, List.getElem?_cons_succ, List.getElem?_cons_zero, List.replicate, e0]
  obtain ⟨h1, bl1, e1, f1, mv1, d1⟩ := e_Ma_readyWithoutMore mk d
  have cr1 : CRw rw h1 := CRw_fr cr f1 fun a j q => by
    rcases q with z | z
    · have := Wds_lt z; omega
    · omega
  have fin1 := RC_mk r0 d sp f1 (fun a j q => Wrd_ok q) d1 cr1
  have sp1 : CSp ca h1 := ⟨by rw [f1.1.2.1]; exact sp.1, sp.2⟩
  obtain ⟨h2, e2, f2, p2⟩ := e_W_prepare mv1.1 0
  have cr2 : CRw rw h2 := CRw_fr cr1 f2 fun a j q => by unfold Wpr at q; omega
  have d2 : DK A ca bl1 h2 := DK_fr d1 f2 (fun a j q => Wpr_cC q) fun a j k hk q z => by
    have := Wdk_lt hk z
    unfold Wpr at q
    omega
  have fin2 := RC_mk fin1.1 d1 sp1 f2 (fun a j q => Wpr_ok q) d2 cr2
  have mv2 := MV_g mv1 (FG_Fr (U := fun _ _ => False) f2) fun a j q => q.1
  have cg2 := CGr_fr (CGr_fr cg f1) f2
  obtain ⟨p7, p8, p9, p10, p12, pl⟩ := p2
  have cg0 := cg2
  obtain ⟨⟨g1, g2, g3, g4, g5, g6, g7, g8, g9, g10, g11, g12, g13, g14⟩, ⟨i1, i2, i3, i4, i5, i6, i7⟩, ⟨b1, b2, b3, b4, b5, b6, b7⟩, ⟨n1, n2, n3, n4, n5, n6, n7, n8, n9, n10⟩, ⟨i, hi, hfl⟩, ⟨j, hj, hrl⟩⟩ := cg2
  have fi0 : FI h2 [] h2 := ⟨FG_refl _ _ _, fun _ => rfl, ⟨Nat.le_refl _, Nat.le_refl _, Nat.le_refl _⟩, fa, i, g1, hi, by rw [g2, hfl], Or.inl g1.symm, b1, by rw [p12]; rfl, Nat.zero_le _, fun j hj => by simp at hj⟩
  obtain ⟨h3, e3, mv3, lv3, z7, fi3⟩ := e_W_every mv2 pl p7 (by rw [g1]; exact i1) (by rw [g5]; exact b3) fi0
  obtain ⟨F1, F2, ⟨F3, F4, F5⟩, fb, ib, q1, q2, q3, q4, q5, q6, q7, q8⟩ := fi3
  have hs2 := mv2.1.1.1
  have hs3 := mv3.1.1.1
  have hN3 := F1.2.1
  have h142 := hs2.2.2
  rw [g1] at F1 q4
  have hfa7 : fb ≠ 0 ∧ fb ≠ 73 ∧ fb ≠ 77 := by
    unfold isG at i1
    omega
  -- the fields
  generalize hh4 : hSetR h3 77 6 fb = h4
  generalize hh5 : hSetI h4 77 7 (nI (sAllR A).length) = h5
  generalize hh6 : hSetI h5 77 5 0 = h6
  generalize hh7 : hSetI h6 77 4 1 = h7
  sorry
