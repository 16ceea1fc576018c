/-! Standing.know -/
theorem e_W_every {A : AS} {h0 : jHp} (x0 : MV A (fun _ => 0) h0) (l0 : WLv A h0) (hg7 : hI h0 73 7 = 0) (hg : isG (hR h0 73 11)) (hra : hR h0 77 8 < hN h0) (fi : FI h0 [] h0) :
    ∃ h', f_W_step 30 [.ref 73, .int (nI 0), .int (nI 0), .int (nI 0), .int (nI (slM A (sWt A 0))), .int (nI 0)] h0 = some (some (.int 0), h') ∧ InE A h0 (sAllR A) h' := by
  have w := x0.1.1.2.1
  have hA : aMv A (fun _ => 0) = A := aMv_0 A _ fun _ => rfl
  have hW := wk_std w (fun _ => 0)
  rw [hA] at hW
  have hlen := sAllR_len w
  have := e_W_walk (A := A) (mv := fun _ => 0) (arE A) (InE A h0) (fun s h i => ⟨i.1, i.2.1⟩) (s := [])
    (fun pre S post s' h hWW hv oS i => by
      rw [vst_E] at hv
      have hs' : s' = pre.filter (sStd A) := by
        have := congrArg Prod.snd hv
        simpa using this.symm
      obtain ⟨h', e, i'⟩ := e_W_arrE x0 l0 hg7 hg hra oS i (fun hst => by
        rw [hWW] at hW
        have := congrArg List.length hW
        rw [List.filter_append, List.filter_cons_of_pos hst, List.length_append, List.length_cons, ← hs'] at this
        omega)
      exact ⟨h', e, i'⟩) (h := h0) ⟨x0, l0, hg7, fi⟩
  obtain ⟨h', e, i'⟩ := this
  rw [vst_E, hW] at e i'
  exact ⟨h', e, i'⟩
/-- ALL is known -/
def KNW (A : AS) (h : jHp) : Prop := ∃ fa fl sl ra rl so di qu co, CGr fa fl fa sl ra rl so di qu co h ∧ hI h 77 4 = 1 ∧ CKn A fa fl fa ra rl so h
theorem KNW_St {A : AS} {h : jHp} (k : KNW A h) : CSt A h := by
  obtain ⟨fa, fl, sl, ra, rl, so, di, qu, co, g, -, c⟩ := k
  exact ⟨fa, fl, fa, sl, ra, rl, so, di, qu, co, g, c⟩
noncomputable def kn_0 : jSt := (s_if (b_ofi (x_fld 9 0 4 (x_aloc 0))) s_retv s_skip)
noncomputable def kn_1 : jSt := (s_callv 5 f_Ma_readyWithoutMore (xs_cons (x_fld 9 1 2 (x_aloc 0)) xs_nil))
noncomputable def kn_2 : jSt := (s_callv 11 f_W_prepare (xs_cons (x_fld 9 1 3 (x_aloc 0)) (xs_cons (x_c (.int (nI 0))) xs_nil)))
noncomputable def kn_3 : jSt := (s_pop (x_callv 11 (f_W_step 30) (xs_cons (x_fld 9 1 3 (x_aloc 0)) (xs_cons (x_c (.int (nI 0))) (xs_cons (x_c (.int (nI 0))) (xs_cons (x_c (.int (nI 0))) (xs_cons (x_fld 11 0 8 (x_fld 9 1 3 (x_aloc 0))) (xs_cons (x_c (.int (nI 0))) xs_nil))))))))
noncomputable def kn_4 : jSt := (s_fput 9 1 0 6 (x_aloc 0) (x_fld 11 1 11 (x_fld 9 1 3 (x_aloc 0))))
noncomputable def kn_5 : jSt := (s_fput 9 0 0 7 (x_aloc 0) (x_fld 11 0 12 (x_fld 9 1 3 (x_aloc 0))))
noncomputable def kn_6 : jSt := (s_fput 9 0 1 5 (x_aloc 0) (x_c (.int (nI 0))))
noncomputable def kn_7 : jSt := (s_fput 9 0 1 4 (x_aloc 0) (x_c (.int (nI 1))))
noncomputable def kn_8 : jSt := s_retv
theorem St_know_s : f_St_know = j_meth 0 1 (s_seq kn_0 (s_seq kn_1 (s_seq kn_2 (s_seq kn_3 (s_seq kn_4 (s_seq kn_5 (s_seq kn_6 (s_seq kn_7 kn_8)))))))) := rfl
theorem Wpr_ok {a j : Nat} (q : Wpr a j) : okW a j := Or.inr (Or.inl (by unfold Wpr at q; omega))
theorem e_St_know {A : AS} {tx : List Nat} {rw : List Int32} {h : jHp} (r : RC A tx rw h) : ∃ h', f_St_know [.ref 77] h = some (none, h') ∧ RC A tx rw h' ∧ FC h h' ∧ KNW A h' := by
  have r0 := r
  obtain ⟨mk, ⟨ca, bl, d, sp⟩, c11, ct, cr, cs⟩ := r
  have hs := mk.1.1
  have w := mk.1.2.1
  obtain ⟨fa, fl, sa, sl, ra, rl, so, di, qu, co, cg, ck⟩ := cs
  have t77 := sT_77 hs
  have h10 : ((1 : Int32) = 0) = False := by decide
  rw [St_know_s]
  rcases ck with c4 | ⟨k4, k1, k2, k3, k5, k6⟩
  case inr =>
    subst k1
    refine ⟨h, ?_, r0, FC_refl h, sa, fl, sl, ra, rl, so, di, qu, co, cg, k4, Or.inr ⟨k4, rfl, k2, k3, k5, k6⟩⟩
    have e0 : kn_0 ([.ref 77], h) = some (.inr none, ([.ref 77], h)) := by
      simp (disch := first | assumption | omega) [kn_0, j_meth, j_out, j_rok, j_pad, lg_sl, s_seq_w, isN_inl, isN_inr, s_if, jb, x_c, x_iloc, x_aloc, x_lloc, x_bin, x_un, o_add, o_sub, o_mul, o_and, o_or, o_xor, o_shl, o_shr, o_ushr, o_max, o_min, o_i2b, o_i2c, o_i2l, o_l2i, x_fld, j_fget, x_idx, j_aget, x_len, j_alen, x_ofb, x_ite, xs_nil, xs_cons, x_callv, x_calls, s_callv, s_calls, j_recv, j_ret, j_retv, b_cmp, b_and, b_or, b_not, b_ofi, b_ite, b_true, s_skip, s_set, j_ty, j_lset, j_kill, s_inc, s_fput, j_fput, s_fop, s_aput, j_aput, j_nar, s_aop, s_ret, s_retv, s_go, s_pop, x_linc, x_finc, Value.category, if_icmp.holds, List.flatMap_cons, List.flatMap_nil, List.length_cons, List.length_append, List.length_nil, List.set_cons_succ, List.set_cons_zero, List.getElem?_cons_succ, List.getElem?_cons_zero, List.replicate, ite_and', ite_or', ite_int', nI_leI, nI_ltI, nI_eq, nI_add, nI_1, pk_mul, nI_clamp, n_in', nI_pos', nI_pos, n_m1e, n_01, n_10, sT_1, sR_1_0, sR_1_1, sR_1_2, sR_1_3, sR_1_4, sR_1_5, sR_1_6, sR_1_7, sR_1_8, sR_1_9, sT_2, sT_3, sT_4, sT_5, sT_6, sT_7, sT_8, sT_9, sT_10, sT_11, sT_12, sT_13, sT_14, sR_2_1, sR_2_2, sR_2_3, sR_2_4, sR_2_5, sR_2_6, sR_2_7, sR_2_8, sR_2_9, sR_2_10, sR_2_11, sR_2_12, sT_15, sT_16, sT_17, sT_18, sT_19, sT_20, sT_21, sT_22, sT_23, sR_15_1, sR_15_2, sR_15_3, sR_15_4, sR_15_5, sR_15_6, sR_15_7, sR_15_8, sT_24, sT_25, sT_26, sT_27, sT_28, sT_29, sR_24_1, sR_24_2, sR_24_3, sR_24_4, sR_24_5, sT_71, sT_72, sR_71_0, sR_71_1, sR_71_2, sR_71_3, sR_71_4, sT_73, sT_74, sT_75, sR_73_0, sR_73_1, sR_73_2, sR_73_3, sR_73_4, sR_73_5, sT_84, sT_85, sT_86, sT_87, sR_84_0, sR_84_1, sR_84_2, sR_84_3, sR_84_4, sR_84_5, sT_88, sT_89, sR_88_0, sT_90, sT_91, sR_90_0, t77, k4, h10]
    simp (disch := first | assumption | omega) [j_meth, j_out, j_rok, j_pad, lg_sl, s_seq_w, isN_inl, isN_inr, s_if, jb, x_c, x_iloc, x_aloc, x_lloc, x_bin, x_un, o_add, o_sub, o_mul, o_and, o_or, o_xor, o_shl, o_shr, o_ushr, o_max, o_min, o_i2b, o_i2c, o_i2l, o_l2i, x_fld, j_fget, x_idx, j_aget, x_len, j_alen, x_ofb, x_ite, xs_nil, xs_cons, x_callv, x_calls, s_callv, s_calls, j_recv, j_ret, j_retv, b_cmp, b_and, b_or, b_not, b_ofi, b_ite, b_true, s_skip, s_set, j_ty, j_lset, j_kill, s_inc, s_fput, j_fput, s_fop, s_aput, j_aput, j_nar, s_aop, s_ret, s_retv, s_go, s_pop, x_linc, x_finc, Value.category, if_icmp.holds, List.flatMap_cons, List.flatMap_nil, List.length_cons, List.length_append, List.length_nil, List.set_cons_succ, List.set_cons_zero, List.getElem?_cons_succ, List.getElem?_cons_zero, List.replicate, e0]
  obtain ⟨h1, bl1, e1, f1, mv1, d1⟩ := e_Ma_readyWithoutMore mk d
  have cr1 : CRw rw h1 := CRw_fr cr f1 fun a j q => by
    rcases q with z | z
    · have := Wds_lt z; omega
    · omega
  have fin1 := RC_mk r0 d sp f1 (fun a j q => Wrd_ok q) d1 cr1
  have sp1 : CSp ca h1 := ⟨by rw [f1.1.2.1]; exact sp.1, sp.2⟩
  obtain ⟨h2, e2, f2, p2⟩ := e_W_prepare mv1.1 0
  have cr2 : CRw rw h2 := CRw_fr cr1 f2 fun a j q => by unfold Wpr at q; omega
  have d2 : DK A ca bl1 h2 := DK_fr d1 f2 (fun a j q => Wpr_cC q) fun a j k hk q z => by
    have := Wdk_lt hk z
    unfold Wpr at q
    omega
  have fin2 := RC_mk fin1.1 d1 sp1 f2 (fun a j q => Wpr_ok q) d2 cr2
  have mv2 := MV_g mv1 (FG_Fr (U := fun _ _ => False) f2) fun a j q => q.1
  have cg2 := CGr_fr (CGr_fr cg f1) f2
  obtain ⟨p7, p8, p9, p10, p12, pl⟩ := p2
  have cg0 := cg2
  obtain ⟨⟨g1, g2, g3, g4, g5, g6, g7, g8, g9, g10, g11, g12, g13, g14⟩, ⟨i1, i2, i3, i4, i5, i6, i7⟩, ⟨b1, b2, b3, b4, b5, b6, b7⟩, ⟨n1, n2, n3, n4, n5, n6, n7, n8, n9, n10⟩, ⟨i, hi, hfl⟩, ⟨j, hj, hrl⟩⟩ := cg2
  have fi0 : FI h2 [] h2 := ⟨FG_refl _ _ _, fun _ => rfl, ⟨Nat.le_refl _, Nat.le_refl _, Nat.le_refl _⟩, fa, i, g1, hi, by rw [g2, hfl], Or.inl g1.symm, b1, by rw [p12]; rfl, Nat.zero_le _, fun j hj => by simp at hj⟩
  obtain ⟨h3, e3, mv3, lv3, z7, fi3⟩ := e_W_every mv2 pl p7 (by rw [g1]; exact i1) (by rw [g5]; exact b3) fi0
  obtain ⟨F1, F2, ⟨F3, F4, F5⟩, fb, ib, q1, q2, q3, q4, q5, q6, q7, q8⟩ := fi3
  have hs2 := mv2.1.1.1
  have hs3 := mv3.1.1.1
  have hN3 := F1.2.1
  have h142 := hs2.2.2
  rw [g1] at F1 q4
  have hfa7 : fb ≠ 0 ∧ fb ≠ 73 ∧ fb ≠ 77 := by
    unfold isG at i1
    omega
  -- the fields
  generalize hh4 : hSetR h3 77 6 fb = h4
  generalize hh5 : hSetI h4 77 7 (nI (sAllR A).length) = h5
  generalize hh6 : hSetI h5 77 5 0 = h6
  generalize hh7 : hSetI h6 77 4 1 = h7
  have I7 : ∀ a k, hI h7 a k = if a = 77 ∧ k = 4 then 1 else if a = 77 ∧ k = 5 then 0 else if a = 77 ∧ k = 7 then nI (sAllR A).length else hI h3 a k := fun a k => by
    rw [← hh7, hI_setI, ← hh6, hI_setI, ← hh5, hI_setI, ← hh4]; rfl
  have R7 : ∀ a k, hR h7 a k = if a = 77 ∧ k = 6 then fb else hR h3 a k := fun a k => by rw [← hh7, ← hh6, ← hh5, ← hh4]; rfl
  have T7 : hT h7 = hT h3 := by rw [← hh7, ← hh6, ← hh5, ← hh4]; rfl
  have J7 : hJ h7 = hJ h3 := by rw [← hh7, ← hh6, ← hh5, ← hh4]; rfl
  have N7 : hN h7 = hN h3 := by rw [← hh7, ← hh6, ← hh5, ← hh4]; rfl
  have S7 : hS h7 = hS h3 := by rw [← hh7, ← hh6, ← hh5, ← hh4]; rfl
  have P7 : pot h7 = pot h3 := by
    unfold pot
    rw [T7, R7, R7, if_neg (by omega), if_neg (by omega)]
  have F7 : FG (fun a j => Wkp fa a j ∨ a = 77) (fun _ _ => False) h2 h7 := by
    refine ⟨fun a ha => by rw [T7]; exact F1.1 a ha, by rw [N7]; exact hN3, fun a k ha hn => ?_, fun a k ha hn => by rw [J7]; exact F1.2.2.2.1 a k ha hn, fun a k ha hn => ?_⟩
    · have h77 : a ≠ 77 := fun q => hn (Or.inr q)
      rw [I7, if_neg (by omega), if_neg (by omega), if_neg (by omega)]
      exact F1.2.2.1 a k ha fun q => hn (Or.inl q)
    · rw [R7, if_neg (by unfold Vg at hn; omega)]
      exact F1.2.2.2.2 a k ha hn
  have r77 : ∀ k, k ≠ 6 → hR h7 77 k = hR h2 77 k := fun k hk => by rw [R7, if_neg (by omega)]; exact F2 k
  have kn : KNW A h7 := by
    refine ⟨fb, 64 * 2 ^ ib, 64 * 2 ^ ib, ra, rl, so, di, qu, co, ⟨⟨?_, ?_, ?_, ?_, ?_, ?_, ?_, ?_, ?_, ?_, ?_, ?_, ?_, ?_⟩, ⟨?_, ?_, i3, i4, i5, i6, i7⟩, ⟨?_, ?_, ?_, ?_, ?_, ?_, ?_⟩, ⟨?_, ?_, ?_, ?_, n5, n6, n7, n8, n9, n10⟩, ⟨ib, q2, rfl⟩, ⟨j, hj, hrl⟩⟩, ?_, Or.inr ⟨?_, rfl, ?_, q7, fun i hi => ?_, Or.inl ?_⟩⟩
    · rw [R7, if_neg (by omega)]; exact q1
    · rw [T7]; exact q3
    · rw [R7, if_pos ⟨rfl, rfl⟩]
    · rw [T7]; exact q3
    · rw [r77 _ (by decide)]; exact g5
    · rw [T7, F1.1 _ b3]; exact g6
    · rw [r77 _ (by decide)]; exact g7
    · rw [T7, F1.1 _ b4]; exact g8
    · rw [r77 _ (by decide)]; exact g9
    · rw [T7, F1.1 _ b5]; exact g10
    · rw [r77 _ (by decide)]; exact g11
    · rw [T7, F1.1 _ b6]; exact g12
    · rw [r77 _ (by decide)]; exact g13
    · rw [T7, F1.1 _ b7]; exact g14
    · rcases q4 with q | q
      · rw [q]; exact i1
      · unfold isG; omega
    · rcases q4 with q | q
      · rw [q]; exact i1
      · unfold isG; omega
    · rw [N7]; exact q5
    · rw [N7]; exact q5
    · rw [N7]; omega
    · rw [N7]; omega
    · rw [N7]; omega
    · rw [N7]; omega
    · rw [N7]; omega
    · omega
    · omega
    · omega
    · omega
    · rw [I7, if_pos ⟨rfl, rfl⟩]
    · rw [I7, if_pos ⟨rfl, rfl⟩]
    · rw [I7, if_neg (by omega), if_neg (by omega), if_pos ⟨rfl, rfl⟩]
    · rw [I7, if_neg (by omega), if_neg (by omega), if_neg (by omega)]
      exact q8 i hi
    · rw [I7, if_neg (by omega), if_pos ⟨rfl, rfl⟩]
  have hWk : ∀ a j, Wkp fa a j ∨ a = 77 → okG a ∧ a ≠ 90 ∧ a ≠ 91 := fun a j q => by
    unfold Wkp at q
    unfold isG at i1
    unfold okG
    omega
  refine ⟨h7, ?_, RC_g fin2.1 F7 (fun a j q => (hWk a j q).1) (CRw_g hs2 cr2 F7 fun a j q => (hWk a j q).2) (KNW_St kn), FC_trans fin1.2 (FC_trans fin2.2 (FC_g F7 hs2 (fun a j q => (hWk a j q).1) (fun a j q => q.elim) (by rw [S7]; exact F3) (by rw [N7, P7]; exact F4) (by rw [S7, P7]; exact F5))), kn⟩
  have hs1 := mv1.1.1.1
  have u1 := sT_77 hs1
  have u2 := sT_77 hs2
  have u3 := sT_77 hs3
  have r2 := sR_77_2 hs
  have r3 := sR_77_3 hs1
  have r32 := sR_77_3 hs2
  have r33 := sR_77_3 hs3
  have s4 : Shape h4 := by rw [← hh4]; exact ⟨hs3.1, fun q hq => by
    have := R0_ok q hq
    have e := hs3.2.1 q hq
    show (if q.1 = 77 ∧ q.2.1 = 6 then fb else hR h3 q.1 q.2.1) = _
    rw [if_neg (by have := this.2; unfold Vg at this; omega)]
    exact e, hs3.2.2⟩
  have u4 := sT_77 s4
  have r34 := sR_77_3 s4
  have c12 : hI h4 73 12 = nI (sAllR A).length := by rw [← hh4]; exact q6
  have s5 : Shape h5 := by rw [← hh5]; exact s4
  have u5 := sT_77 s5
  have s6 : Shape h6 := by rw [← hh6]; exact s5
  have u6 := sT_77 s6
  have nfb := hfa7.1
  have hz : (nI 0 = (0 : Int32)) = True := by decide
  simp only [nI_0] at e3
  generalize nI (slM A (sWt A 0)) = Wz at *
  clear kn F7 I7 R7 T7 J7 N7 S7 P7 r77 hWk F1 F2 mv1 mv2 mv3 fin1 fin2 d1 d2 d sp sp1 q8 lv3 pl cg cg0 mk r0
  generalize (sAllR A).length = LL at *
  have a0 : kn_0 ([.ref 77], h) = some (.inl 0, ([.ref 77], h)) := by
    simp (disch := first | assumption | omega) [kn_0, j_meth, j_out, j_rok, j_pad, lg_sl, s_seq_w, isN_inl, isN_inr, s_if, jb, x_c, x_iloc, x_aloc, x_lloc, x_bin, x_un, o_add, o_sub, o_mul, o_and, o_or, o_xor, o_shl, o_shr, o_ushr, o_max, o_min, o_i2b, o_i2c, o_i2l, o_l2i, x_fld, j_fget, x_idx, j_aget, x_len, j_alen, x_ofb, x_ite, xs_nil, xs_cons, x_callv, x_calls, s_callv, s_calls, j_recv, j_ret, j_retv, b_cmp, b_and, b_or, b_not, b_ofi, b_ite, b_true, s_skip, s_set, j_ty, j_lset, j_kill, s_inc, s_fput, j_fput, s_fop, s_aput, j_aput, j_nar, s_aop, s_ret, s_retv, s_go, s_pop, x_linc, x_finc, Value.category, if_icmp.holds, List.flatMap_cons, List.flatMap_nil, List.length_cons, List.length_append, List.length_nil, List.set_cons_succ, List.set_cons_zero, List.getElem?_cons_succ, List.getElem?_cons_zero, List.replicate, ite_and', ite_or', ite_int', nI_leI, nI_ltI, nI_eq, nI_add, nI_1, pk_mul, nI_clamp, n_in', nI_pos', nI_pos, n_m1e, n_01, n_10, sT_1, sR_1_0, sR_1_1, sR_1_2, sR_1_3, sR_1_4, sR_1_5, sR_1_6, sR_1_7, sR_1_8, sR_1_9, sT_2, sT_3, sT_4, sT_5, sT_6, sT_7, sT_8, sT_9, sT_10, sT_11, sT_12, sT_13, sT_14, sR_2_1, sR_2_2, sR_2_3, sR_2_4, sR_2_5, sR_2_6, sR_2_7, sR_2_8, sR_2_9, sR_2_10, sR_2_11, sR_2_12, sT_15, sT_16, sT_17, sT_18, sT_19, sT_20, sT_21, sT_22, sT_23, sR_15_1, sR_15_2, sR_15_3, sR_15_4, sR_15_5, sR_15_6, sR_15_7, sR_15_8, sT_24, sT_25, sT_26, sT_27, sT_28, sT_29, sR_24_1, sR_24_2, sR_24_3, sR_24_4, sR_24_5, sT_71, sT_72, sR_71_0, sR_71_1, sR_71_2, sR_71_3, sR_71_4, sT_73, sT_74, sT_75, sR_73_0, sR_73_1, sR_73_2, sR_73_3, sR_73_4, sR_73_5, sT_84, sT_85, sT_86, sT_87, sR_84_0, sR_84_1, sR_84_2, sR_84_3, sR_84_4, sR_84_5, sT_88, sT_89, sR_88_0, sT_90, sT_91, sR_90_0, t77, c4]
  have a1 : kn_1 ([.ref 77], h) = some (.inl 0, ([.ref 77], h1)) := by
    simp (disch := first | assumption | omega) [kn_1, j_meth, j_out, j_rok, j_pad, lg_sl, s_seq_w, isN_inl, isN_inr, s_if, jb, x_c, x_iloc, x_aloc, x_lloc, x_bin, x_un, o_add, o_sub, o_mul, o_and, o_or, o_xor, o_shl, o_shr, o_ushr, o_max, o_min, o_i2b, o_i2c, o_i2l, o_l2i, x_fld, j_fget, x_idx, j_aget, x_len, j_alen, x_ofb, x_ite, xs_nil, xs_cons, x_callv, x_calls, s_callv, s_calls, j_recv, j_ret, j_retv, b_cmp, b_and, b_or, b_not, b_ofi, b_ite, b_true, s_skip, s_set, j_ty, j_lset, j_kill, s_inc, s_fput, j_fput, s_fop, s_aput, j_aput, j_nar, s_aop, s_ret, s_retv, s_go, s_pop, x_linc, x_finc, Value.category, if_icmp.holds, List.flatMap_cons, List.flatMap_nil, List.length_cons, List.length_append, List.length_nil, List.set_cons_succ, List.set_cons_zero, List.getElem?_cons_succ, List.getElem?_cons_zero, List.replicate, ite_and', ite_or', ite_int', nI_leI, nI_ltI, nI_eq, nI_add, nI_1, pk_mul, nI_clamp, n_in', nI_pos', nI_pos, n_m1e, n_01, n_10, sT_1, sR_1_0, sR_1_1, sR_1_2, sR_1_3, sR_1_4, sR_1_5, sR_1_6, sR_1_7, sR_1_8, sR_1_9, sT_2, sT_3, sT_4, sT_5, sT_6, sT_7, sT_8, sT_9, sT_10, sT_11, sT_12, sT_13, sT_14, sR_2_1, sR_2_2, sR_2_3, sR_2_4, sR_2_5, sR_2_6, sR_2_7, sR_2_8, sR_2_9, sR_2_10, sR_2_11, sR_2_12, sT_15, sT_16, sT_17, sT_18, sT_19, sT_20, sT_21, sT_22, sT_23, sR_15_1, sR_15_2, sR_15_3, sR_15_4, sR_15_5, sR_15_6, sR_15_7, sR_15_8, sT_24, sT_25, sT_26, sT_27, sT_28, sT_29, sR_24_1, sR_24_2, sR_24_3, sR_24_4, sR_24_5, sT_71, sT_72, sR_71_0, sR_71_1, sR_71_2, sR_71_3, sR_71_4, sT_73, sT_74, sT_75, sR_73_0, sR_73_1, sR_73_2, sR_73_3, sR_73_4, sR_73_5, sT_84, sT_85, sT_86, sT_87, sR_84_0, sR_84_1, sR_84_2, sR_84_3, sR_84_4, sR_84_5, sT_88, sT_89, sR_88_0, sT_90, sT_91, sR_90_0, t77, r2, e1]
  have a2 : kn_2 ([.ref 77], h1) = some (.inl 0, ([.ref 77], h2)) := by
    simp (disch := first | assumption | omega) [kn_2, j_meth, j_out, j_rok, j_pad, lg_sl, s_seq_w, isN_inl, isN_inr, s_if, jb, x_c, x_iloc, x_aloc, x_lloc, x_bin, x_un, o_add, o_sub, o_mul, o_and, o_or, o_xor, o_shl, o_shr, o_ushr, o_max, o_min, o_i2b, o_i2c, o_i2l, o_l2i, x_fld, j_fget, x_idx, j_aget, x_len, j_alen, x_ofb, x_ite, xs_nil, xs_cons, x_callv, x_calls, s_callv, s_calls, j_recv, j_ret, j_retv, b_cmp, b_and, b_or, b_not, b_ofi, b_ite, b_true, s_skip, s_set, j_ty, j_lset, j_kill, s_inc, s_fput, j_fput, s_fop, s_aput, j_aput, j_nar, s_aop, s_ret, s_retv, s_go, s_pop, x_linc, x_finc, Value.category, if_icmp.holds, List.flatMap_cons, List.flatMap_nil, List.length_cons, List.length_append, List.length_nil, List.set_cons_succ, List.set_cons_zero, List.getElem?_cons_succ, List.getElem?_cons_zero, List.replicate, ite_and', ite_or', ite_int', nI_leI, nI_ltI, nI_eq, nI_add, nI_1, pk_mul, nI_clamp, n_in', nI_pos', nI_pos, n_m1e, n_01, n_10, sT_1, sR_1_0, sR_1_1, sR_1_2, sR_1_3, sR_1_4, sR_1_5, sR_1_6, sR_1_7, sR_1_8, sR_1_9, sT_2, sT_3, sT_4, sT_5, sT_6, sT_7, sT_8, sT_9, sT_10, sT_11, sT_12, sT_13, sT_14, sR_2_1, sR_2_2, sR_2_3, sR_2_4, sR_2_5, sR_2_6, sR_2_7, sR_2_8, sR_2_9, sR_2_10, sR_2_11, sR_2_12, sT_15, sT_16, sT_17, sT_18, sT_19, sT_20, sT_21, sT_22, sT_23, sR_15_1, sR_15_2, sR_15_3, sR_15_4, sR_15_5, sR_15_6, sR_15_7, sR_15_8, sT_24, sT_25, sT_26, sT_27, sT_28, sT_29, sR_24_1, sR_24_2, sR_24_3, sR_24_4, sR_24_5, sT_71, sT_72, sR_71_0, sR_71_1, sR_71_2, sR_71_3, sR_71_4, sT_73, sT_74, sT_75, sR_73_0, sR_73_1, sR_73_2, sR_73_3, sR_73_4, sR_73_5, sT_84, sT_85, sT_86, sT_87, sR_84_0, sR_84_1, sR_84_2, sR_84_3, sR_84_4, sR_84_5, sT_88, sT_89, sR_88_0, sT_90, sT_91, sR_90_0, u1, r3, nI_0, e2]
  have a3 : kn_3 ([.ref 77], h2) = some (.inl 0, ([.ref 77], h3)) := by
    simp (disch := first | assumption | omega) [kn_3, j_meth, j_out, j_rok, j_pad, lg_sl, s_seq_w, isN_inl, isN_inr, s_if, jb, x_c, x_iloc, x_aloc, x_lloc, x_bin, x_un, o_add, o_sub, o_mul, o_and, o_or, o_xor, o_shl, o_shr, o_ushr, o_max, o_min, o_i2b, o_i2c, o_i2l, o_l2i, x_fld, j_fget, x_idx, j_aget, x_len, j_alen, x_ofb, x_ite, xs_nil, xs_cons, x_callv, x_calls, s_callv, s_calls, j_recv, j_ret, j_retv, b_cmp, b_and, b_or, b_not, b_ofi, b_ite, b_true, s_skip, s_set, j_ty, j_lset, j_kill, s_inc, s_fput, j_fput, s_fop, s_aput, j_aput, j_nar, s_aop, s_ret, s_retv, s_go, s_pop, x_linc, x_finc, Value.category, if_icmp.holds, List.flatMap_cons, List.flatMap_nil, List.length_cons, List.length_append, List.length_nil, List.set_cons_succ, List.set_cons_zero, List.getElem?_cons_succ, List.getElem?_cons_zero, List.replicate, ite_and', ite_or', ite_int', nI_leI, nI_ltI, nI_eq, nI_add, nI_1, pk_mul, nI_clamp, n_in', nI_pos', nI_pos, n_m1e, n_01, n_10, sT_1, sR_1_0, sR_1_1, sR_1_2, sR_1_3, sR_1_4, sR_1_5, sR_1_6, sR_1_7, sR_1_8, sR_1_9, sT_2, sT_3, sT_4, sT_5, sT_6, sT_7, sT_8, sT_9, sT_10, sT_11, sT_12, sT_13, sT_14, sR_2_1, sR_2_2, sR_2_3, sR_2_4, sR_2_5, sR_2_6, sR_2_7, sR_2_8, sR_2_9, sR_2_10, sR_2_11, sR_2_12, sT_15, sT_16, sT_17, sT_18, sT_19, sT_20, sT_21, sT_22, sT_23, sR_15_1, sR_15_2, sR_15_3, sR_15_4, sR_15_5, sR_15_6, sR_15_7, sR_15_8, sT_24, sT_25, sT_26, sT_27, sT_28, sT_29, sR_24_1, sR_24_2, sR_24_3, sR_24_4, sR_24_5, sT_71, sT_72, sR_71_0, sR_71_1, sR_71_2, sR_71_3, sR_71_4, sT_73, sT_74, sT_75, sR_73_0, sR_73_1, sR_73_2, sR_73_3, sR_73_4, sR_73_5, sT_84, sT_85, sT_86, sT_87, sR_84_0, sR_84_1, sR_84_2, sR_84_3, sR_84_4, sR_84_5, sT_88, sT_89, sR_88_0, sT_90, sT_91, sR_90_0, u2, r32, nI_0, p8, e3]
  have a4 : kn_4 ([.ref 77], h3) = some (.inl 0, ([.ref 77], h4)) := by
    simp (disch := first | assumption | omega) [kn_4, j_meth, j_out, j_rok, j_pad, lg_sl, s_seq_w, isN_inl, isN_inr, s_if, jb, x_c, x_iloc, x_aloc, x_lloc, x_bin, x_un, o_add, o_sub, o_mul, o_and, o_or, o_xor, o_shl, o_shr, o_ushr, o_max, o_min, o_i2b, o_i2c, o_i2l, o_l2i, x_fld, j_fget, x_idx, j_aget, x_len, j_alen, x_ofb, x_ite, xs_nil, xs_cons, x_callv, x_calls, s_callv, s_calls, j_recv, j_ret, j_retv, b_cmp, b_and, b_or, b_not, b_ofi, b_ite, b_true, s_skip, s_set, j_ty, j_lset, j_kill, s_inc, s_fput, j_fput, s_fop, s_aput, j_aput, j_nar, s_aop, s_ret, s_retv, s_go, s_pop, x_linc, x_finc, Value.category, if_icmp.holds, List.flatMap_cons, List.flatMap_nil, List.length_cons, List.length_append, List.length_nil, List.set_cons_succ, List.set_cons_zero, List.getElem?_cons_succ, List.getElem?_cons_zero, List.replicate, ite_and', ite_or', ite_int', nI_leI, nI_ltI, nI_eq, nI_add, nI_1, pk_mul, nI_clamp, n_in', nI_pos', nI_pos, n_m1e, n_01, n_10, sT_1, sR_1_0, sR_1_1, sR_1_2, sR_1_3, sR_1_4, sR_1_5, sR_1_6, sR_1_7, sR_1_8, sR_1_9, sT_2, sT_3, sT_4, sT_5, sT_6, sT_7, sT_8, sT_9, sT_10, sT_11, sT_12, sT_13, sT_14, sR_2_1, sR_2_2, sR_2_3, sR_2_4, sR_2_5, sR_2_6, sR_2_7, sR_2_8, sR_2_9, sR_2_10, sR_2_11, sR_2_12, sT_15, sT_16, sT_17, sT_18, sT_19, sT_20, sT_21, sT_22, sT_23, sR_15_1, sR_15_2, sR_15_3, sR_15_4, sR_15_5, sR_15_6, sR_15_7, sR_15_8, sT_24, sT_25, sT_26, sT_27, sT_28, sT_29, sR_24_1, sR_24_2, sR_24_3, sR_24_4, sR_24_5, sT_71, sT_72, sR_71_0, sR_71_1, sR_71_2, sR_71_3, sR_71_4, sT_73, sT_74, sT_75, sR_73_0, sR_73_1, sR_73_2, sR_73_3, sR_73_4, sR_73_5, sT_84, sT_85, sT_86, sT_87, sR_84_0, sR_84_1, sR_84_2, sR_84_3, sR_84_4, sR_84_5, sT_88, sT_89, sR_88_0, sT_90, sT_91, sR_90_0, u3, r33, q1, nfb, hh4]
  have a5 : kn_5 ([.ref 77], h4) = some (.inl 0, ([.ref 77], h5)) := by
    simp (disch := first | assumption | omega) [kn_5, j_meth, j_out, j_rok, j_pad, lg_sl, s_seq_w, isN_inl, isN_inr, s_if, jb, x_c, x_iloc, x_aloc, x_lloc, x_bin, x_un, o_add, o_sub, o_mul, o_and, o_or, o_xor, o_shl, o_shr, o_ushr, o_max, o_min, o_i2b, o_i2c, o_i2l, o_l2i, x_fld, j_fget, x_idx, j_aget, x_len, j_alen, x_ofb, x_ite, xs_nil, xs_cons, x_callv, x_calls, s_callv, s_calls, j_recv, j_ret, j_retv, b_cmp, b_and, b_or, b_not, b_ofi, b_ite, b_true, s_skip, s_set, j_ty, j_lset, j_kill, s_inc, s_fput, j_fput, s_fop, s_aput, j_aput, j_nar, s_aop, s_ret, s_retv, s_go, s_pop, x_linc, x_finc, Value.category, if_icmp.holds, List.flatMap_cons, List.flatMap_nil, List.length_cons, List.length_append, List.length_nil, List.set_cons_succ, List.set_cons_zero, List.getElem?_cons_succ, List.getElem?_cons_zero, List.replicate, ite_and', ite_or', ite_int', nI_leI, nI_ltI, nI_eq, nI_add, nI_1, pk_mul, nI_clamp, n_in', nI_pos', nI_pos, n_m1e, n_01, n_10, sT_1, sR_1_0, sR_1_1, sR_1_2, sR_1_3, sR_1_4, sR_1_5, sR_1_6, sR_1_7, sR_1_8, sR_1_9, sT_2, sT_3, sT_4, sT_5, sT_6, sT_7, sT_8, sT_9, sT_10, sT_11, sT_12, sT_13, sT_14, sR_2_1, sR_2_2, sR_2_3, sR_2_4, sR_2_5, sR_2_6, sR_2_7, sR_2_8, sR_2_9, sR_2_10, sR_2_11, sR_2_12, sT_15, sT_16, sT_17, sT_18, sT_19, sT_20, sT_21, sT_22, sT_23, sR_15_1, sR_15_2, sR_15_3, sR_15_4, sR_15_5, sR_15_6, sR_15_7, sR_15_8, sT_24, sT_25, sT_26, sT_27, sT_28, sT_29, sR_24_1, sR_24_2, sR_24_3, sR_24_4, sR_24_5, sT_71, sT_72, sR_71_0, sR_71_1, sR_71_2, sR_71_3, sR_71_4, sT_73, sT_74, sT_75, sR_73_0, sR_73_1, sR_73_2, sR_73_3, sR_73_4, sR_73_5, sT_84, sT_85, sT_86, sT_87, sR_84_0, sR_84_1, sR_84_2, sR_84_3, sR_84_4, sR_84_5, sT_88, sT_89, sR_88_0, sT_90, sT_91, sR_90_0, u4, r34, c12, hh5]
  have a6 : kn_6 ([.ref 77], h5) = some (.inl 0, ([.ref 77], h6)) := by
    simp (disch := first | assumption | omega) [kn_6, j_meth, j_out, j_rok, j_pad, lg_sl, s_seq_w, isN_inl, isN_inr, s_if, jb, x_c, x_iloc, x_aloc, x_lloc, x_bin, x_un, o_add, o_sub, o_mul, o_and, o_or, o_xor, o_shl, o_shr, o_ushr, o_max, o_min, o_i2b, o_i2c, o_i2l, o_l2i, x_fld, j_fget, x_idx, j_aget, x_len, j_alen, x_ofb, x_ite, xs_nil, xs_cons, x_callv, x_calls, s_callv, s_calls, j_recv, j_ret, j_retv, b_cmp, b_and, b_or, b_not, b_ofi, b_ite, b_true, s_skip, s_set, j_ty, j_lset, j_kill, s_inc, s_fput, j_fput, s_fop, s_aput, j_aput, j_nar, s_aop, s_ret, s_retv, s_go, s_pop, x_linc, x_finc, Value.category, if_icmp.holds, List.flatMap_cons, List.flatMap_nil, List.length_cons, List.length_append, List.length_nil, List.set_cons_succ, List.set_cons_zero, List.getElem?_cons_succ, List.getElem?_cons_zero, List.replicate, ite_and', ite_or', ite_int', nI_leI, nI_ltI, nI_eq, nI_add, nI_1, pk_mul, nI_clamp, n_in', nI_pos', nI_pos, n_m1e, n_01, n_10, sT_1, sR_1_0, sR_1_1, sR_1_2, sR_1_3, sR_1_4, sR_1_5, sR_1_6, sR_1_7, sR_1_8, sR_1_9, sT_2, sT_3, sT_4, sT_5, sT_6, sT_7, sT_8, sT_9, sT_10, sT_11, sT_12, sT_13, sT_14, sR_2_1, sR_2_2, sR_2_3, sR_2_4, sR_2_5, sR_2_6, sR_2_7, sR_2_8, sR_2_9, sR_2_10, sR_2_11, sR_2_12, sT_15, sT_16, sT_17, sT_18, sT_19, sT_20, sT_21, sT_22, sT_23, sR_15_1, sR_15_2, sR_15_3, sR_15_4, sR_15_5, sR_15_6, sR_15_7, sR_15_8, sT_24, sT_25, sT_26, sT_27, sT_28, sT_29, sR_24_1, sR_24_2, sR_24_3, sR_24_4, sR_24_5, sT_71, sT_72, sR_71_0, sR_71_1, sR_71_2, sR_71_3, sR_71_4, sT_73, sT_74, sT_75, sR_73_0, sR_73_1, sR_73_2, sR_73_3, sR_73_4, sR_73_5, sT_84, sT_85, sT_86, sT_87, sR_84_0, sR_84_1, sR_84_2, sR_84_3, sR_84_4, sR_84_5, sT_88, sT_89, sR_88_0, sT_90, sT_91, sR_90_0, u5, nI_0, hh6]
  have a7 : kn_7 ([.ref 77], h6) = some (.inl 0, ([.ref 77], h7)) := by
    have h11 : nI 1 = 1 := rfl
    simp (disch := first | assumption | omega) [kn_7, j_meth, j_out, j_rok, j_pad, lg_sl, s_seq_w, isN_inl, isN_inr, s_if, jb, x_c, x_iloc, x_aloc, x_lloc, x_bin, x_un, o_add, o_sub, o_mul, o_and, o_or, o_xor, o_shl, o_shr, o_ushr, o_max, o_min, o_i2b, o_i2c, o_i2l, o_l2i, x_fld, j_fget, x_idx, j_aget, x_len, j_alen, x_ofb, x_ite, xs_nil, xs_cons, x_callv, x_calls, s_callv, s_calls, j_recv, j_ret, j_retv, b_cmp, b_and, b_or, b_not, b_ofi, b_ite, b_true, s_skip, s_set, j_ty, j_lset, j_kill, s_inc, s_fput, j_fput, s_fop, s_aput, j_aput, j_nar, s_aop, s_ret, s_retv, s_go, s_pop, x_linc, x_finc, Value.category, if_icmp.holds, List.flatMap_cons, List.flatMap_nil, List.length_cons, List.length_append, List.length_nil, List.set_cons_succ, List.set_cons_zero, List.getElem?_cons_succ, List.getElem?_cons_zero, List.replicate, ite_and', ite_or', ite_int', nI_leI, nI_ltI, nI_eq, nI_add, nI_1, pk_mul, nI_clamp, n_in', nI_pos', nI_pos, n_m1e, n_01, n_10, sT_1, sR_1_0, sR_1_1, sR_1_2, sR_1_3, sR_1_4, sR_1_5, sR_1_6, sR_1_7, sR_1_8, sR_1_9, sT_2, sT_3, sT_4, sT_5, sT_6, sT_7, sT_8, sT_9, sT_10, sT_11, sT_12, sT_13, sT_14, sR_2_1, sR_2_2, sR_2_3, sR_2_4, sR_2_5, sR_2_6, sR_2_7, sR_2_8, sR_2_9, sR_2_10, sR_2_11, sR_2_12, sT_15, sT_16, sT_17, sT_18, sT_19, sT_20, sT_21, sT_22, sT_23, sR_15_1, sR_15_2, sR_15_3, sR_15_4, sR_15_5, sR_15_6, sR_15_7, sR_15_8, sT_24, sT_25, sT_26, sT_27, sT_28, sT_29, sR_24_1, sR_24_2, sR_24_3, sR_24_4, sR_24_5, sT_71, sT_72, sR_71_0, sR_71_1, sR_71_2, sR_71_3, sR_71_4, sT_73, sT_74, sT_75, sR_73_0, sR_73_1, sR_73_2, sR_73_3, sR_73_4, sR_73_5, sT_84, sT_85, sT_86, sT_87, sR_84_0, sR_84_1, sR_84_2, sR_84_3, sR_84_4, sR_84_5, sT_88, sT_89, sR_88_0, sT_90, sT_91, sR_90_0, u6, h11, hh7]
  have a8 : kn_8 ([.ref 77], h7) = some (.inr none, ([.ref 77], h7)) := rfl
  simp (disch := first | assumption | omega) [j_meth, j_out, j_rok, j_pad, lg_sl, s_seq_w, isN_inl, isN_inr, s_if, jb, x_c, x_iloc, x_aloc, x_lloc, x_bin, x_un, o_add, o_sub, o_mul, o_and, o_or, o_xor, o_shl, o_shr, o_ushr, o_max, o_min, o_i2b, o_i2c, o_i2l, o_l2i, x_fld, j_fget, x_idx, j_aget, x_len, j_alen, x_ofb, x_ite, xs_nil, xs_cons, x_callv, x_calls, s_callv, s_calls, j_recv, j_ret, j_retv, b_cmp, b_and, b_or, b_not, b_ofi, b_ite, b_true, s_skip, s_set, j_ty, j_lset, j_kill, s_inc, s_fput, j_fput, s_fop, s_aput, j_aput, j_nar, s_aop, s_ret, s_retv, s_go, s_pop, x_linc, x_finc, Value.category, if_icmp.holds, List.flatMap_cons, List.flatMap_nil, List.length_cons, List.length_append, List.length_nil, List.set_cons_succ, List.set_cons_zero, List.getElem?_cons_succ, List.getElem?_cons_zero, List.replicate, a0, a1, a2, a3, a4, a5, a6, a7, a8]
