/-! choice -/
theorem o_S_choice {A : AS} {tx : List Nat} {rw : List Int32} {h : jHp} (r : RC A tx rw h) (x : Int32) : ∃ h', f_S_choice [.ref 1, .int x] h = some (some (.int (vChoice A tx x).1), h') ∧ RC (vChoice A tx x).2 [] rw h' ∧ FC h h' := by
  have r0 := r
  obtain ⟨mk, ⟨ca, bl, d, sp⟩, c11, ct, cr, cs⟩ := r
  have hs := mk.1.1
  have w := mk.1.2.1
  have hno := w.2.1
  have ef := e_S_hasOffice hs w c11 x
  have h10 : ((1 : Int32) = 0) = False := by decide
  have ha := sp.2.1 4 (by decide)
  have hal := CA_lt ha
  have ha0 : ca 4 ≠ 0 := by omega
  unfold vChoice
  by_cases hx : j_in x (aNo A) = true
  case neg =>
    rw [if_neg hx] at ef ⊢
    have f1 : FrR (Wrr (ca 4)) V88 h (hSetI h 88 1 (nI 0)) := FrR_of (Fr_set _ (Or.inr ⟨rfl, rfl⟩))
    have hs1 : Shape (hSetI h 88 1 (nI 0)) := hs
    have fin := RC_read r0 d sp f1 hs1 (by rw [hI_setI, if_pos ⟨rfl, rfl⟩])
    refine ⟨hSetI h 88 1 (nI 0), ?_, fin.1, fin.2.1⟩
    simp (disch := first | assumption | omega) [f_S_choice, body_S_choice, j_meth, j_out, j_rok, j_pad, lg_sl, s_seq_w, isN_inl, isN_inr, s_if, jb, x_c, x_iloc, x_aloc, x_lloc, x_bin, x_un, o_add, o_sub, o_mul, o_and, o_or, o_xor, o_shl, o_shr, o_ushr, o_max, o_min, o_i2b, o_i2c, o_i2l, o_l2i, x_fld, j_fget, x_idx, j_aget, x_len, j_alen, x_ofb, x_ite, xs_nil, xs_cons, x_callv, x_calls, s_callv, s_calls, j_recv, j_ret, j_retv, b_cmp, b_and, b_or, b_not, b_ofi, b_ite, b_true, s_skip, s_set, j_ty, j_lset, j_kill, s_inc, s_fput, j_fput, s_fop, s_aput, j_aput, j_nar, s_aop, s_ret, s_retv, s_go, s_pop, x_linc, x_finc, Value.category, if_icmp.holds, List.flatMap_cons, List.flatMap_nil, List.length_cons, List.length_append, List.length_nil, List.set_cons_succ, List.set_cons_zero, List.getElem?_cons_succ, List.getElem?_cons_zero, List.replicate, ite_and', ite_or', ite_int', nI_leI, nI_ltI, nI_eq, nI_add, nI_1, pk_mul, nI_clamp, n_in', nI_pos', nI_pos, n_m1e, n_01, n_10, sT_1, sR_1_0, sR_1_1, sR_1_2, sR_1_3, sR_1_4, sR_1_5, sR_1_6, sR_1_7, sR_1_8, sR_1_9, sT_2, sT_3, sT_4, sT_5, sT_6, sT_7, sT_8, sT_9, sT_10, sT_11, sT_12, sT_13, sT_14, sR_2_1, sR_2_2, sR_2_3, sR_2_4, sR_2_5, sR_2_6, sR_2_7, sR_2_8, sR_2_9, sR_2_10, sR_2_11, sR_2_12, sT_15, sT_16, sT_17, sT_18, sT_19, sT_20, sT_21, sT_22, sT_23, sR_15_1, sR_15_2, sR_15_3, sR_15_4, sR_15_5, sR_15_6, sR_15_7, sR_15_8, sT_24, sT_25, sT_26, sT_27, sT_28, sT_29, sR_24_1, sR_24_2, sR_24_3, sR_24_4, sR_24_5, sT_71, sT_72, sR_71_0, sR_71_1, sR_71_2, sR_71_3, sR_71_4, sT_73, sT_74, sT_75, sR_73_0, sR_73_1, sR_73_2, sR_73_3, sR_73_4, sR_73_5, sT_84, sT_85, sT_86, sT_87, sR_84_0, sR_84_1, sR_84_2, sR_84_3, sR_84_4, sR_84_5, sT_88, sT_89, sR_88_0, sT_90, sT_91, sR_90_0, ef]
  rw [if_pos hx] at ef ⊢
  obtain ⟨f, hf', rfl⟩ := j_in_ex hx (by omega)
  have hf4 : f < 4 := by omega
  rw [nI_clamp (by omega)]
  obtain ⟨ans, h1, e1, f1, g1, g2⟩ := e_T_read hs ha ct
  have hs0 := Shape_88 hs (ca 4)
  have hs1 := Fr_shape hs0 f1
  have fr1 : FrR (Wrr (ca 4)) V88 h h1 := FrR_trans (FrR_set _ ⟨rfl, rfl⟩) (FrR_mono (FrR_of f1) (fun a k q => Or.inl q) (fun a k q => q))
  have fr2 : FrR (Wrr (ca 4)) V88 h (hSetI h1 88 1 (nI 0)) := FrR_trans fr1 (FrR_of (Fr_set _ (Or.inr ⟨rfl, rfl⟩)))
  have hs2 : Shape (hSetI h1 88 1 (nI 0)) := hs1
  have fin2 := RC_read r0 d sp fr2 hs2 (by rw [hI_setI, if_pos ⟨rfl, rfl⟩])
  have sp10 := sp.1
  have c12 : ∀ C, CHc C true (ca 4) h1 → CHc C true (ca 4) (hSetI h1 88 1 (nI 0)) := fun C z => CHc_eq z fun i j hi => by
    rw [hI_setI, if_neg]
    unfold isCA at ha
    omega
  cases hP : pAl tx 21 0 C0 0 with
  | mk o j =>
    cases o with
    | none =>
      obtain ⟨ha1, hj⟩ := g2 j hP
      have hneg := neg_ans j hj
      rw [← ha1] at hneg
      have hng : ¬ 0 < ans := fun z => Int32.lt_irrefl (Int32.lt_trans hneg z)
      refine ⟨hSetI h1 88 1 (nI 0), ?_, fin2.1, fin2.2.1⟩
      simp only
      rw [← ha1]
      clear fin2 fr1 fr2 f1 g1 g2 hP
      generalize ca 4 = a at *
      simp (disch := first | assumption | omega) [f_S_choice, body_S_choice, j_meth, j_out, j_rok, j_pad, lg_sl, s_seq_w, isN_inl, isN_inr, s_if, jb, x_c, x_iloc, x_aloc, x_lloc, x_bin, x_un, o_add, o_sub, o_mul, o_and, o_or, o_xor, o_shl, o_shr, o_ushr, o_max, o_min, o_i2b, o_i2c, o_i2l, o_l2i, x_fld, j_fget, x_idx, j_aget, x_len, j_alen, x_ofb, x_ite, xs_nil, xs_cons, x_callv, x_calls, s_callv, s_calls, j_recv, j_ret, j_retv, b_cmp, b_and, b_or, b_not, b_ofi, b_ite, b_true, s_skip, s_set, j_ty, j_lset, j_kill, s_inc, s_fput, j_fput, s_fop, s_aput, j_aput, j_nar, s_aop, s_ret, s_retv, s_go, s_pop, x_linc, x_finc, Value.category, if_icmp.holds, List.flatMap_cons, List.flatMap_nil, List.length_cons, List.length_append, List.length_nil, List.set_cons_succ, List.set_cons_zero, List.getElem?_cons_succ, List.getElem?_cons_zero, List.replicate, ite_and', ite_or', ite_int', nI_leI, nI_ltI, nI_eq, nI_add, nI_1, pk_mul, nI_clamp, n_in', nI_pos', nI_pos, n_m1e, n_01, n_10, sT_1, sR_1_0, sR_1_1, sR_1_2, sR_1_3, sR_1_4, sR_1_5, sR_1_6, sR_1_7, sR_1_8, sR_1_9, sT_2, sT_3, sT_4, sT_5, sT_6, sT_7, sT_8, sT_9, sT_10, sT_11, sT_12, sT_13, sT_14, sR_2_1, sR_2_2, sR_2_3, sR_2_4, sR_2_5, sR_2_6, sR_2_7, sR_2_8, sR_2_9, sR_2_10, sR_2_11, sR_2_12, sT_15, sT_16, sT_17, sT_18, sT_19, sT_20, sT_21, sT_22, sT_23, sR_15_1, sR_15_2, sR_15_3, sR_15_4, sR_15_5, sR_15_6, sR_15_7, sR_15_8, sT_24, sT_25, sT_26, sT_27, sT_28, sT_29, sR_24_1, sR_24_2, sR_24_3, sR_24_4, sR_24_5, sT_71, sT_72, sR_71_0, sR_71_1, sR_71_2, sR_71_3, sR_71_4, sT_73, sT_74, sT_75, sR_73_0, sR_73_1, sR_73_2, sR_73_3, sR_73_4, sR_73_5, sT_84, sT_85, sT_86, sT_87, sR_84_0, sR_84_1, sR_84_2, sR_84_3, sR_84_4, sR_84_5, sT_88, sT_89, sR_88_0, sT_90, sT_91, sR_90_0, ef, h10, sp10, ha0, e1, hng]
    | some q =>
      obtain ⟨ha1, cq, ckq, hq0, hq21⟩ := g1 q j hP
      have hpos : (0 : Int32) < ans := by
        have h0 : (0 : Int32) = nI 0 := nI_0.symm
        rw [ha1, h0, nI_ltI (by omega) (by omega)]
        exact hq0
      have hCok := CHk_ok ckq (by omega)
      have wB : WF (aChoi A f q.1) := WF_choi w hf' hCok
      have cq2 := c12 q.1 cq
      obtain ⟨rc2, fc2, d2, sp2⟩ := fin2
      have s77 := sT_77 hs2
      generalize hh2 : hSetI h1 88 1 (nI 0) = h2 at *
      obtain ⟨⟨D0, D1, D2, D3⟩, -⟩ := d2 f hf4
      have hs3 := Shape_d hs2 hf4 (ca 4)
      have f3 : FrR (fun _ _ => False) (fun a k => a = dA f ∧ k = 3) h2 (hSetR h2 (dA f) 3 (ca 4)) := FrR_set _ ⟨rfl, rfl⟩
      have R3 : hR (hSetR h2 (dA f) 3 (ca 4)) (dA f) 3 = ca 4 := by rw [hR_setR, if_pos ⟨rfl, rfl⟩]
      generalize hh3 : hSetR h2 (dA f) 3 (ca 4) = h3 at *
      obtain ⟨h4, e4, f4, t4⟩ := e_D_forget (A := aChoi A f q.1) hs3 hf4
      have hs4 := Fr_shape hs3 f4
      have hs5 := Shape_1 hs4 (ca f)
      have f5 : FrR (fun _ _ => False) (fun a k => a = 1 ∧ k = 10) h4 (hSetR h4 1 10 (ca f)) := FrR_set _ ⟨rfl, rfl⟩
      have R5 : hR (hSetR h4 1 10 (ca f)) 1 10 = ca f := by rw [hR_setR, if_pos ⟨rfl, rfl⟩]
      generalize hh5 : hSetR h4 1 10 (ca f) = h5 at *
      have f6 : Fr (fun a k => a = 77 ∧ k = 4) h5 (hSetI h5 77 4 (nI 0)) := Fr_set _ ⟨rfl, rfl⟩
      have hs6 : Shape (hSetI h5 77 4 (nI 0)) := hs5
      have h60 : hI (hSetI h5 77 4 (nI 0)) 77 4 = 0 := by rw [hI_setI, if_pos ⟨rfl, rfl⟩]; exact nI_0
      have ff : FrR (fun a k => Wdk f a k ∨ (a = 77 ∧ k = 4)) (fun a k => (a = dA f ∧ k = 3) ∨ (a = 1 ∧ k = 10)) h2 (hSetI h5 77 4 (nI 0)) := FrR_trans (FrR_mono f3 (fun a k z => z.elim) (fun a k z => Or.inl z)) (FrR_trans (FrR_mono (FrR_of f4) (fun a k z => Or.inl z) (fun a k z => z)) (FrR_trans (FrR_mono f5 (fun a k z => z.elim) (fun a k z => Or.inr z)) (FrR_mono (FrR_of f6) (fun a k z => Or.inr z) (fun a k z => z))))
      have R6 : hR (hSetI h5 77 4 (nI 0)) = hR h5 := rfl
      have R45 : ∀ a k, ¬ (a = 1 ∧ k = 10) → hR h5 a k = hR h4 a k := fun a k z => f5.2.1 a k z
      have R34 : hR h4 = hR h3 := f4.1.2.1
      refine ⟨hSetI h5 77 4 (nI 0), ?_, ?_, ?_⟩
      · simp only
        rw [← ha1]
        obtain ⟨u1, -, -, -, -, -, -, -, -, r30⟩ := DSh_of hs2 hf4
        obtain ⟨v1, -, -, -, -, -, -, -, -, s30⟩ := DSh_of hs3 hf4
        have t30 := sT_30 hs2
        have t30' := sT_30 hs3
        have n0 : dA f ≠ 0 := by unfold dA; omega
        have hcf := CA_lt D2
        have nf : ca f ≠ 0 := by omega
        have s77' := sT_77 hs5
        have hz : (nI 0 = (0 : Int32)) = True := by rw [nI_0]; simp
        have sp210 := sp2.1
        clear d d2 rc2 fc2 fr1 fr2 f1 f3 f4 f5 f6 ff g1 g2 hP t4 D3 cq cq2 c12 R45 R6
        generalize hh6 : hSetI h5 77 4 (nI 0) = h6 at *
        generalize dA f = D at *
        generalize ca f = cf at *
        generalize ca 4 = a at *
        simp (disch := first | assumption | omega) [f_S_choice, body_S_choice, j_meth, j_out, j_rok, j_pad, lg_sl, s_seq_w, isN_inl, isN_inr, s_if, jb, x_c, x_iloc, x_aloc, x_lloc, x_bin, x_un, o_add, o_sub, o_mul, o_and, o_or, o_xor, o_shl, o_shr, o_ushr, o_max, o_min, o_i2b, o_i2c, o_i2l, o_l2i, x_fld, j_fget, x_idx, j_aget, x_len, j_alen, x_ofb, x_ite, xs_nil, xs_cons, x_callv, x_calls, s_callv, s_calls, j_recv, j_ret, j_retv, b_cmp, b_and, b_or, b_not, b_ofi, b_ite, b_true, s_skip, s_set, j_ty, j_lset, j_kill, s_inc, s_fput, j_fput, s_fop, s_aput, j_aput, j_nar, s_aop, s_ret, s_retv, s_go, s_pop, x_linc, x_finc, Value.category, if_icmp.holds, List.flatMap_cons, List.flatMap_nil, List.length_cons, List.length_append, List.length_nil, List.set_cons_succ, List.set_cons_zero, List.getElem?_cons_succ, List.getElem?_cons_zero, List.replicate, ite_and', ite_or', ite_int', nI_leI, nI_ltI, nI_eq, nI_add, nI_1, pk_mul, nI_clamp, n_in', nI_pos', nI_pos, n_m1e, n_01, n_10, sT_1, sR_1_0, sR_1_1, sR_1_2, sR_1_3, sR_1_4, sR_1_5, sR_1_6, sR_1_7, sR_1_8, sR_1_9, sT_2, sT_3, sT_4, sT_5, sT_6, sT_7, sT_8, sT_9, sT_10, sT_11, sT_12, sT_13, sT_14, sR_2_1, sR_2_2, sR_2_3, sR_2_4, sR_2_5, sR_2_6, sR_2_7, sR_2_8, sR_2_9, sR_2_10, sR_2_11, sR_2_12, sT_15, sT_16, sT_17, sT_18, sT_19, sT_20, sT_21, sT_22, sT_23, sR_15_1, sR_15_2, sR_15_3, sR_15_4, sR_15_5, sR_15_6, sR_15_7, sR_15_8, sT_24, sT_25, sT_26, sT_27, sT_28, sT_29, sR_24_1, sR_24_2, sR_24_3, sR_24_4, sR_24_5, sT_71, sT_72, sR_71_0, sR_71_1, sR_71_2, sR_71_3, sR_71_4, sT_73, sT_74, sT_75, sR_73_0, sR_73_1, sR_73_2, sR_73_3, sR_73_4, sR_73_5, sT_84, sT_85, sT_86, sT_87, sR_84_0, sR_84_1, sR_84_2, sR_84_3, sR_84_4, sR_84_5, sT_88, sT_89, sR_88_0, sT_90, sT_91, sR_90_0, ef, h10, sp10, ha0, e1, hh2, hpos, t30, r30, n0, u1, D1, nf, sp210, hh3, t30', s30, v1, e4, hh5, s77', hz, hh6]
      · have e29 : ∀ a k, a ≤ 29 → hI (hSetI h5 77 4 (nI 0)) a k = hI h2 a k := fun a k z => ff.2.2 a k fun y => by
          rcases y with y | y
          · have := Wdk_lt hf4 y; omega
          · omega
        obtain ⟨m1, -, m3, m4, m5, m6⟩ := rc2
        refine ⟨⟨⟨hs6, wB, CB_eq (A := A) m1.1.2.2.1 e29, CP_eq (A := A) m1.1.2.2.2 e29⟩, CC_eq (A := A) m1.2 e29⟩, ⟨fun k => if k = f then ca 4 else if k = 4 then ca f else ca k, fun k => if k = f then 0 else bl k, fun k hk => ?_, ?_, ?_, ?_⟩, ?_, ⟨m4.1, ?_, fun i hi => by simp at hi⟩, ⟨m5.1, ?_, fun i hi => ?_⟩, CSt_n m6 ff (fun a k z => by unfold dA at z; omega) h60⟩
        · by_cases e : k = f
          · subst e
            simp only [if_true]
            refine ⟨⟨?_, ?_, ha, ?_⟩, Fr_CR (CR_r t4 f5 fun a j z => z.elim) f6 fun a j z y => by have := Wdk_lt hk y; omega⟩
            · rw [ff.2.2 _ _ fun z => ?_]
              · exact D0
              · unfold Wdk dA at z
                omega
            · rw [R6, R45 _ _ (by unfold dA; omega), R34]; exact R3
            · have h1 : chD (aChoi A k q.1) k = q.1 := by
                unfold chD
                have : aCh (aChoi A k q.1) k = some q.1 := updN_eq _ _ _
                rw [this]; rfl
              have h2 : (aCh (aChoi A k q.1) k).isSome = true := by
                have : aCh (aChoi A k q.1) k = some q.1 := updN_eq _ _ _
                rw [this]; rfl
              rw [h1, h2]
              refine CHc_eq cq2 fun i j hi => ff.2.2 _ _ fun z => ?_
              rcases z with z | z
              · unfold Wdk dA at z
                unfold isCA at ha
                omega
              · unfold isCA at ha
                omega
          · simp only [if_neg e]
            rw [if_neg (show ¬ k = 4 by omega)]
            obtain ⟨⟨y0, y1, y2, y3⟩, y4⟩ := d2 k hk
            have hag : TkAg A (aChoi A f q.1) k := ag_choi q.1 e
            have cd : CD0 A k (ca k) (hSetI h5 77 4 (nI 0)) := by
              refine ⟨?_, ?_, y2, CHc_eq y3 fun i j hi => ff.2.2 _ _ fun z => ?_⟩
              · rw [ff.2.2 _ _ fun z => ?_]
                · exact y0
                · unfold Wdk dA at z
                  omega
              · rw [ff.2.1 _ _ fun z => ?_]
                · exact y1
                · unfold dA at z
                  omega
              · rcases z with z | z
                · unfold Wdk dA at z
                  unfold isCA at y2
                  omega
                · unfold isCA at y2
                  omega
            refine ⟨CD0_ag hag.2.2.2.2.2 cd, CR_ag w wB hag (CR_r y4 ff fun a j z => ?_)⟩
            rcases z with z | z
            · exact Wdk_ne hf4 hk (fun y => e y.symm) z
            · intro y
              have := Wdk_lt hk y
              omega
        · simp only
          rw [if_neg (show ¬ 4 = f by omega), if_pos trivial, R6]
          exact R5
        · intro i hi
          simp only
          split
          · exact ha
          · split
            · exact D2
            · exact sp.2.1 i hi
        · intro i k hi hk
          simp only
          have inj := sp.2.2
          intro z
          by_cases a1 : i = f
          · rw [if_pos a1] at z
            by_cases b1 : k = f
            · omega
            · rw [if_neg b1] at z
              by_cases b2 : k = 4
              · rw [if_pos b2] at z
                have := inj 4 f (by omega) (by omega) z
                omega
              · rw [if_neg b2] at z
                have := inj 4 k (by omega) hk z
                omega
          · rw [if_neg a1] at z
            by_cases a2 : i = 4
            · rw [if_pos a2] at z
              by_cases b1 : k = f
              · rw [if_pos b1] at z
                have := inj f 4 (by omega) (by omega) z
                omega
              · rw [if_neg b1] at z
                by_cases b2 : k = 4
                · omega
                · rw [if_neg b2] at z
                  have := inj f k (by omega) hk z
                  omega
            · rw [if_neg a2] at z
              by_cases b1 : k = f
              · rw [if_pos b1] at z
                have := inj i 4 hi (by omega) z
                omega
              · rw [if_neg b1] at z
                by_cases b2 : k = 4
                · rw [if_pos b2] at z
                  have := inj i f hi (by omega) z
                  omega
                · rw [if_neg b2] at z
                  exact inj i k hi hk z
        · rw [e29 _ _ (by omega)]; exact m3
        · rw [ff.2.2 _ _ fun z => ?_]
          · exact m4.2.1
          · rcases z with z | z
            · have := Wdk_lt hf4 z; omega
            · omega
        · rw [ff.2.2 _ _ fun z => ?_]
          · exact m5.2.1
          · rcases z with z | z
            · have := Wdk_lt hf4 z; omega
            · omega
        · rw [ff.2.2 _ _ fun z => ?_]
          · exact m5.2.2 i hi
          · rcases z with z | z
            · have := Wdk_lt hf4 z; omega
            · omega
      · exact FC_trans fc2 (FC_r ff (fun a j z => by
          rcases z with z | z
          · have := Wdk_lt hf4 z; omega
          · omega) (fun a j z => by unfold dA at z; omega))
