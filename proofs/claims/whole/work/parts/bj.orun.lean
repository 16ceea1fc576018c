/-! OFFERS: a run -/
theorem slM_z {A : AS} (w : WF A) {X : Nat} (hX : X < 2 ^ aNb A) : slM A X = 0 ↔ X = 0 := by
  constructor
  · intro h
    apply Nat.eq_of_testBit_eq
    intro b
    rw [Nat.zero_testBit]
    cases q : X.testBit b with
    | false => rfl
    | true =>
      have := slM_b w X (bits_lt hX q)
      rw [h, q] at this
      simp at this
  · intro h
    subst h
    apply Nat.eq_of_testBit_eq
    intro j
    rw [Nat.zero_testBit]
    cases q : (slM A 0).testBit j with
    | false => rfl
    | true =>
      unfold slM at q
      obtain ⟨b, -, b2, -⟩ := (slM_bit A _ _ _).mp q
      simp at b2
theorem oHld_ln {A : AS} (w : WF A) (E : Nat) : oHld A E < 2 ^ aNb A := lt_of_bits fun i hi => by
  unfold oHld at hi
  rw [nfo_or_bit] at hi
  obtain ⟨o, -, h⟩ := hi
  exact ((take_spec w o _).1 i h).1
theorem oNow_ln {A : AS} {s : OS} (h : OIn A s) : oNow A s < 2 ^ aNb A := lt_of_bits fun i hi => by
  obtain ⟨p, -, ha⟩ := (oNow_bit A s i).mp hi
  exact (oAct_in h ha).1
def W847 (a j : Nat) : Prop := (a = 84 ∧ (j = 6 ∨ j = 7 ∨ j = 8)) ∨ a = 87
theorem W847_ok {a j : Nat} (h : W847 a j) : okW a j := Or.inr (Or.inr (Or.inl (by unfold W847 at h; omega)))
theorem OT_fr {A : AS} {W : Nat → Nat → Prop} {h h' : jHp} (x : OT A h) (f : Fr W h h') (hW : ∀ a j, W a j → 71 ≤ a ∧ a ≤ 91) : OT A h' := by
  refine ⟨MK_fr x.1 f fun a j q => ?_, fun o ho P hP => ?_⟩
  · have := hW a j q
    unfold cC isCA
    rintro (z | ⟨c, q1, q2, q3⟩ | z) <;> omega
  · rw [Fr_I f fun q => ?_]
    · exact x.2 o ho P hP
    · have := hW _ _ q
      unfold dA at this
      omega
theorem RO_fr {A : AS} {L : Nat → List Nat} {W : Nat → Nat → Prop} {h h' : jHp} (r : RO A L h) (f : Fr W h h') (hW : ∀ a j, W a j → a ≠ 85 ∧ a ≠ 86) : RO A L h' := fun p hp => ⟨by rw [Fr_I f fun q => (hW _ _ q).2 rfl]; exact (r p hp).1, fun k hk => by rw [Fr_I f fun q => (hW _ _ q).1 rfl]; exact (r p hp).2 k hk⟩
theorem e_O_run {A : AS} {L : Nat → List Nat} {h : jHp} (x : OT A h) (l : LK A L) (ro : RO A L h) : ∃ h' s, s = oRun A 36 (0, 0, 0, 0, L) ∧ f_O_run [.ref 84] h = some (some (.int (if popN 32 (sPpl A s.2.1) = popN 32 s.2.1 then 1 else 0)), h') ∧ Fr W847 h h' ∧ hI h' 84 6 = nI s.2.2.1 ∧ hI h' 84 7 = nI s.2.2.2.1 ∧ hI h' 84 8 = nI (slM A s.2.1) ∧ s.2.1 < 2 ^ aNb A ∧ s.2.2.1 ≤ 20 := by
  have w := x.1.1.2.1
  have hs := x.1.1.1
  have hn := w.1.1
  rw [run_20 w l]
  obtain ⟨h1, e1, f1, c1⟩ := e_J_fill (nI 0) (sT_87 hs) (by decide) (by decide)
  have hs1 := Fr_shape hs f1
  have f2 : Fr W847 h1 (hSetI (hSetI (hSetI h1 84 6 (nI 0)) 84 7 (nI 0)) 84 8 (nI 0)) := Fr_trans (Fr_trans (Fr_set _ (Or.inl ⟨rfl, by omega⟩)) (Fr_set _ (Or.inl ⟨rfl, by omega⟩))) (Fr_set _ (Or.inl ⟨rfl, by omega⟩))
  have f12 : Fr W847 h (hSetI (hSetI (hSetI h1 84 6 (nI 0)) 84 7 (nI 0)) 84 8 (nI 0)) := Fr_trans (Fr_mono f1 fun a j q => Or.inr q) f2
  have a6 : hI (hSetI (hSetI (hSetI h1 84 6 (nI 0)) 84 7 (nI 0)) 84 8 (nI 0)) 84 6 = nI 0 := by rw [hI_setI, if_neg (by omega), hI_setI, if_neg (by omega), hI_setI, if_pos ⟨rfl, rfl⟩]
  have a8 : hI (hSetI (hSetI (hSetI h1 84 6 (nI 0)) 84 7 (nI 0)) 84 8 (nI 0)) 84 8 = nI 0 := by rw [hI_setI, if_pos ⟨rfl, rfl⟩]
  have a87 : ∀ p, p < 7 → hI (hSetI (hSetI (hSetI h1 84 6 (nI 0)) 84 7 (nI 0)) 84 8 (nI 0)) 87 p = nI 0 := fun p hp => by rw [hI_setI, if_neg (by omega), hI_setI, if_neg (by omega), hI_setI, if_neg (by omega)]; exact c1 p hp
  have hs2 : Shape (hSetI h1 84 6 (nI 0)) := hs1
  have hs3 : Shape (hSetI (hSetI h1 84 6 (nI 0)) 84 7 (nI 0)) := hs1
  have hs4 := Fr_shape hs f12
  generalize hh4 : hSetI (hSetI (hSetI h1 84 6 (nI 0)) 84 7 (nI 0)) 84 8 (nI 0) = h4 at *
  generalize hh3 : hSetI (hSetI h1 84 6 (nI 0)) 84 7 (nI 0) = h3 at *
  generalize hh2 : hSetI h1 84 6 (nI 0) = h2 at *
  have hsl0 : slM A 0 = 0 := (slM_z w (Nat.two_pow_pos _)).mpr rfl
  have hL := loop_wp (lb := 1) (lc := 2) (c := lc_O_run_1) (b := lb_O_run_1) (u := lu_O_run_1) 20
    (fun i st => ∃ h' s v, st = ([.ref 84, .int (nI (slM A s.1)), .int (nI i), v], h') ∧ Fr W847 h h' ∧ OIn A s ∧ s.2.1 < 2 ^ aNb A ∧ s.2.2.1 = i ∧ oRun A 20 (0, 0, 0, 0, L) = oRun A (20 - i) s ∧ hI h' 84 6 = nI s.2.2.1 ∧ hI h' 84 8 = nI (slM A s.2.1) ∧ ∀ p, p < aNp A → RS A L s.2.2.2.2 h' p)
    (fun r => ∃ h' s v w', r = (.inl 0, ([.ref 84, .int (nI (slM A s.1)), v, w'], h')) ∧ Fr W847 h h' ∧ OIn A s ∧ s.2.1 < 2 ^ aNb A ∧ oRun A 20 (0, 0, 0, 0, L) = s ∧ hI h' 84 6 = nI s.2.2.1 ∧ hI h' 84 8 = nI (slM A s.2.1) ∧ s.2.2.1 ≤ 20)
    ?_ ?_ ([.ref 84, .int (nI 0), .int (nI 0), .null], h4) ⟨h4, (0, 0, 0, 0, L), .null, by simp only; rw [hsl0], f12, OIn_ini l, Nat.two_pow_pos _, rfl, rfl, a6, by rw [a8]; simp only; rw [hsl0], fun p hp => ⟨0, Nat.zero_le _, a87 p (by omega), by simp⟩⟩
  · obtain ⟨r, e, h5, s, v, w', rfl, f5, oi, hl, hr, b6, b8, h20⟩ := hL
    have hs5 := Fr_shape hs f5
    have x5 := OT_fr x f5 fun a j q => by unfold W847 at q; omega
    have eb := e_J_bitCount h5 (x := slM A s.1) (slM_lt w _)
    rw [pop_sl w oi.1, ← oi.2.1] at eb
    have f6 : Fr W847 h5 (hSetI h5 84 7 (nI s.2.2.2.1)) := Fr_set _ (Or.inl ⟨rfl, by omega⟩)
    have x6 := OT_fr x5 f6 fun a j q => by unfold W847 at q; omega
    have hs6 := x6.1.1.1
    have b8' : hI (hSetI h5 84 7 (nI s.2.2.2.1)) 84 8 = nI (slM A s.2.1) := by rw [hI_setI, if_neg (by omega)]; exact b8
    have et := e_O_isHeldTwice x6.1 hl b8'
    refine ⟨hSetI h5 84 7 (nI s.2.2.2.1), s, hr.symm, ?_, Fr_trans f5 f6, by rw [hI_setI, if_neg (by omega)]; exact b6, by rw [hI_setI, if_pos ⟨rfl, rfl⟩], b8', hl, h20⟩
    clear x x5 x6 l ro a6 a8 a87 f5 f6 f12 f2 f1 hr b6 b8 b8' c1 oi
    generalize s.2.2.2.1 = off at *
    generalize hh6 : hSetI h5 84 7 (nI off) = h6 at *
    simp only [nI_0] at e
    have hh2' : hSetI h1 84 6 0 = h2 := by rw [← hh2, nI_0]
    have hh3' : hSetI h2 84 7 0 = h3 := by rw [← hh3, nI_0]
    have hh4' : hSetI h3 84 8 0 = h4 := by rw [← hh4, nI_0]
    simp only [nI_0] at e1
    have h10 : ((1 : Int32) = 0) = False := by decide
    by_cases q : popN 32 (sPpl A s.2.1) = popN 32 s.2.1
    · rw [if_pos q] at et ⊢
      generalize slM A s.1 = E at *
      simp (disch := first | assumption | omega) [f_O_run, body_O_run, j_meth, j_out, j_rok, j_pad, lg_sl, s_seq_w, isN_inl, isN_inr, s_if, jb, x_c, x_iloc, x_aloc, x_lloc, x_bin, x_un, o_add, o_sub, o_mul, o_and, o_or, o_xor, o_shl, o_shr, o_ushr, o_max, o_min, o_i2b, o_i2c, o_i2l, o_l2i, x_fld, j_fget, x_idx, j_aget, x_len, j_alen, x_ofb, x_ite, xs_nil, xs_cons, x_callv, x_calls, s_callv, s_calls, j_recv, j_ret, j_retv, b_cmp, b_and, b_or, b_not, b_ofi, b_ite, b_true, s_skip, s_set, j_ty, j_lset, j_kill, s_inc, s_fput, j_fput, s_fop, s_aput, j_aput, j_nar, s_aop, s_ret, s_retv, s_go, s_pop, x_linc, x_finc, Value.category, if_icmp.holds, List.flatMap_cons, List.flatMap_nil, List.length_cons, List.length_append, List.length_nil, List.set_cons_succ, List.set_cons_zero, List.getElem?_cons_succ, List.getElem?_cons_zero, List.replicate, ite_and', ite_or', ite_int', nI_leI, nI_ltI, nI_eq, nI_add, nI_1, pk_mul, nI_clamp, n_in', nI_pos', nI_pos, n_m1e, n_01, n_10, sT_1, sR_1_0, sR_1_1, sR_1_2, sR_1_3, sR_1_4, sR_1_5, sR_1_6, sR_1_7, sR_1_8, sR_1_9, sT_2, sT_3, sT_4, sT_5, sT_6, sT_7, sT_8, sT_9, sT_10, sT_11, sT_12, sT_13, sT_14, sR_2_1, sR_2_2, sR_2_3, sR_2_4, sR_2_5, sR_2_6, sR_2_7, sR_2_8, sR_2_9, sR_2_10, sR_2_11, sR_2_12, sT_15, sT_16, sT_17, sT_18, sT_19, sT_20, sT_21, sT_22, sT_23, sR_15_1, sR_15_2, sR_15_3, sR_15_4, sR_15_5, sR_15_6, sR_15_7, sR_15_8, sT_24, sT_25, sT_26, sT_27, sT_28, sT_29, sR_24_1, sR_24_2, sR_24_3, sR_24_4, sR_24_5, sT_71, sT_72, sR_71_0, sR_71_1, sR_71_2, sR_71_3, sR_71_4, sT_73, sT_74, sT_75, sR_73_0, sR_73_1, sR_73_2, sR_73_3, sR_73_4, sR_73_5, sT_84, sT_85, sT_86, sT_87, sR_84_0, sR_84_1, sR_84_2, sR_84_3, sR_84_4, sR_84_5, sT_88, sT_89, sR_88_0, sT_90, sT_91, sR_90_0, nI_0, e1, hh2', hh3', hh4', e, eb, hh6, et]
    · rw [if_neg q] at et ⊢
      generalize slM A s.1 = E at *
      simp (disch := first | assumption | omega) [f_O_run, body_O_run, j_meth, j_out, j_rok, j_pad, lg_sl, s_seq_w, isN_inl, isN_inr, s_if, jb, x_c, x_iloc, x_aloc, x_lloc, x_bin, x_un, o_add, o_sub, o_mul, o_and, o_or, o_xor, o_shl, o_shr, o_ushr, o_max, o_min, o_i2b, o_i2c, o_i2l, o_l2i, x_fld, j_fget, x_idx, j_aget, x_len, j_alen, x_ofb, x_ite, xs_nil, xs_cons, x_callv, x_calls, s_callv, s_calls, j_recv, j_ret, j_retv, b_cmp, b_and, b_or, b_not, b_ofi, b_ite, b_true, s_skip, s_set, j_ty, j_lset, j_kill, s_inc, s_fput, j_fput, s_fop, s_aput, j_aput, j_nar, s_aop, s_ret, s_retv, s_go, s_pop, x_linc, x_finc, Value.category, if_icmp.holds, List.flatMap_cons, List.flatMap_nil, List.length_cons, List.length_append, List.length_nil, List.set_cons_succ, List.set_cons_zero, List.getElem?_cons_succ, List.getElem?_cons_zero, List.replicate, ite_and', ite_or', ite_int', nI_leI, nI_ltI, nI_eq, nI_add, nI_1, pk_mul, nI_clamp, n_in', nI_pos', nI_pos, n_m1e, n_01, n_10, sT_1, sR_1_0, sR_1_1, sR_1_2, sR_1_3, sR_1_4, sR_1_5, sR_1_6, sR_1_7, sR_1_8, sR_1_9, sT_2, sT_3, sT_4, sT_5, sT_6, sT_7, sT_8, sT_9, sT_10, sT_11, sT_12, sT_13, sT_14, sR_2_1, sR_2_2, sR_2_3, sR_2_4, sR_2_5, sR_2_6, sR_2_7, sR_2_8, sR_2_9, sR_2_10, sR_2_11, sR_2_12, sT_15, sT_16, sT_17, sT_18, sT_19, sT_20, sT_21, sT_22, sT_23, sR_15_1, sR_15_2, sR_15_3, sR_15_4, sR_15_5, sR_15_6, sR_15_7, sR_15_8, sT_24, sT_25, sT_26, sT_27, sT_28, sT_29, sR_24_1, sR_24_2, sR_24_3, sR_24_4, sR_24_5, sT_71, sT_72, sR_71_0, sR_71_1, sR_71_2, sR_71_3, sR_71_4, sT_73, sT_74, sT_75, sR_73_0, sR_73_1, sR_73_2, sR_73_3, sR_73_4, sR_73_5, sT_84, sT_85, sT_86, sT_87, sR_84_0, sR_84_1, sR_84_2, sR_84_3, sR_84_4, sR_84_5, sT_88, sT_89, sR_88_0, sT_90, sT_91, sR_90_0, nI_0, e1, hh2', hh3', hh4', e, eb, hh6, et, h10]
  · rintro i st hi ⟨h5, s, v, rfl, f5, oi, hl, hri, hr, b6, b8, rs⟩
    have hs5 := Fr_shape hs f5
    have x5 := OT_fr x f5 fun a j q => by unfold W847 at q; omega
    have ro5 := RO_fr ro f5 fun a j q => by unfold W847 at q; omega
    obtain ⟨h6, e6, f6, rs6⟩ := e_O_nextOffers x5.1 l ro5 b8 rs
    have hs6 := Fr_shape hs5 f6
    have f56 : Fr W847 h h6 := Fr_trans f5 (Fr_mono f6 fun a j q => Or.inr q)
    have x6 := OT_fr x f56 fun a j q => by unfold W847 at q; omega
    have hnl := oNow_ln oi
    have hz : (nI (slM A (oNow A s)) = 0) = (oNow A s = 0) := by
      rw [propext (n_eq0 (slM_lt w _)), propext (slM_z w hnl)]
    have c6 : hI h6 84 6 = nI s.2.2.1 := by rw [Fr_I f6 (by unfold W87; omega)]; exact b6
    have c8 : hI h6 84 8 = nI (slM A s.2.1) := by rw [Fr_I f6 (by unfold W87; omega)]; exact b8
    obtain ⟨n, hn20⟩ : ∃ n, 20 - i = n + 1 := ⟨19 - i, by omega⟩
    by_cases q : oNow A s = 0
    · right
      refine ⟨(.inl 0, ([.ref 84, .int (nI (slM A s.1)), .int (nI i), .int (nI (slM A (oNow A s)))], h6)), ?_, h6, s, _, _, rfl, f56, oi, hl, ?_, c6, c8, by omega⟩
      · clear x x5 x6 l ro ro5 rs rs6 f5 f6 f56 f12 f2 f1 oi hr
        generalize slM A (oNow A s) = N at *
        generalize slM A s.1 = E at *
        simp (disch := first | assumption | omega) [lstp, lc_O_run_1, lb_O_run_1, lu_O_run_1, j_meth, j_out, j_rok, j_pad, lg_sl, s_seq_w, isN_inl, isN_inr, s_if, jb, x_c, x_iloc, x_aloc, x_lloc, x_bin, x_un, o_add, o_sub, o_mul, o_and, o_or, o_xor, o_shl, o_shr, o_ushr, o_max, o_min, o_i2b, o_i2c, o_i2l, o_l2i, x_fld, j_fget, x_idx, j_aget, x_len, j_alen, x_ofb, x_ite, xs_nil, xs_cons, x_callv, x_calls, s_callv, s_calls, j_recv, j_ret, j_retv, b_cmp, b_and, b_or, b_not, b_ofi, b_ite, b_true, s_skip, s_set, j_ty, j_lset, j_kill, s_inc, s_fput, j_fput, s_fop, s_aput, j_aput, j_nar, s_aop, s_ret, s_retv, s_go, s_pop, x_linc, x_finc, Value.category, if_icmp.holds, List.flatMap_cons, List.flatMap_nil, List.length_cons, List.length_append, List.length_nil, List.set_cons_succ, List.set_cons_zero, List.getElem?_cons_succ, List.getElem?_cons_zero, List.replicate, ite_and', ite_or', ite_int', nI_leI, nI_ltI, nI_eq, nI_add, nI_1, pk_mul, nI_clamp, n_in', nI_pos', nI_pos, n_m1e, n_01, n_10, sT_1, sR_1_0, sR_1_1, sR_1_2, sR_1_3, sR_1_4, sR_1_5, sR_1_6, sR_1_7, sR_1_8, sR_1_9, sT_2, sT_3, sT_4, sT_5, sT_6, sT_7, sT_8, sT_9, sT_10, sT_11, sT_12, sT_13, sT_14, sR_2_1, sR_2_2, sR_2_3, sR_2_4, sR_2_5, sR_2_6, sR_2_7, sR_2_8, sR_2_9, sR_2_10, sR_2_11, sR_2_12, sT_15, sT_16, sT_17, sT_18, sT_19, sT_20, sT_21, sT_22, sT_23, sR_15_1, sR_15_2, sR_15_3, sR_15_4, sR_15_5, sR_15_6, sR_15_7, sR_15_8, sT_24, sT_25, sT_26, sT_27, sT_28, sT_29, sR_24_1, sR_24_2, sR_24_3, sR_24_4, sR_24_5, sT_71, sT_72, sR_71_0, sR_71_1, sR_71_2, sR_71_3, sR_71_4, sT_73, sT_74, sT_75, sR_73_0, sR_73_1, sR_73_2, sR_73_3, sR_73_4, sR_73_5, sT_84, sT_85, sT_86, sT_87, sR_84_0, sR_84_1, sR_84_2, sR_84_3, sR_84_4, sR_84_5, sT_88, sT_89, sR_88_0, sT_90, sT_91, sR_90_0, hi, e6, hz, q]
      · rw [hr, hn20]
        simp only [oRun]
        rw [if_pos q]
    · left
      have eh := e_O_holds (h := hSetI h6 84 6 (nI (s.2.2.1 + 1))) (OT_fr (W := W847) x6 (Fr_set _ (Or.inl ⟨rfl, by omega⟩)) fun a j q => by unfold W847 at q; omega) (s.1 ||| oNow A s)
      have f7 : Fr W847 h6 (hSetI (hSetI h6 84 6 (nI (s.2.2.1 + 1))) 84 8 (nI (slM A (oHld A (s.1 ||| oNow A s))))) := Fr_trans (Fr_set _ (Or.inl ⟨rfl, by omega⟩)) (Fr_set _ (Or.inl ⟨rfl, by omega⟩))
      have hor : nI (slM A s.1) ||| nI (slM A (oNow A s)) = nI (slM A (s.1 ||| oNow A s)) := by rw [n_or, slM_or]
      obtain ⟨oi', hp'⟩ := OIn_stp w oi q
      have hE1 : (oStp A s).1 = s.1 ||| oNow A s := rfl
      refine ⟨([.ref 84, .int (nI (slM A (s.1 ||| oNow A s))), .int (nI (i + 1)), .int (nI (slM A (oNow A s)))], hSetI (hSetI h6 84 6 (nI (s.2.2.1 + 1))) 84 8 (nI (slM A (oHld A (s.1 ||| oNow A s))))), ?_, _, oStp A s, _, by rw [hE1], Fr_trans f56 f7, oi', oHld_ln w _, by show s.2.2.1 + 1 = i + 1; omega, ?_, ?_, ?_, fun p hp => ?_⟩
      · have hs7 : Shape (hSetI h6 84 6 (nI (s.2.2.1 + 1))) := hs6
        clear x x5 x6 l ro ro5 rs rs6 f5 f6 f56 f12 f2 f1 oi oi' hr f7
        have hri' : s.2.2.1 < 20 := by omega
        generalize s.2.2.1 = rd at *
        generalize hh7 : hSetI h6 84 6 (nI (rd + 1)) = h7 at *
        generalize slM A (oHld A (s.1 ||| oNow A s)) = HL at *
        generalize slM A (s.1 ||| oNow A s) = EN at *
        generalize slM A (oNow A s) = N at *
        generalize slM A s.1 = E at *
        simp (disch := first | assumption | omega) [lstp, lc_O_run_1, lb_O_run_1, lu_O_run_1, j_meth, j_out, j_rok, j_pad, lg_sl, s_seq_w, isN_inl, isN_inr, s_if, jb, x_c, x_iloc, x_aloc, x_lloc, x_bin, x_un, o_add, o_sub, o_mul, o_and, o_or, o_xor, o_shl, o_shr, o_ushr, o_max, o_min, o_i2b, o_i2c, o_i2l, o_l2i, x_fld, j_fget, x_idx, j_aget, x_len, j_alen, x_ofb, x_ite, xs_nil, xs_cons, x_callv, x_calls, s_callv, s_calls, j_recv, j_ret, j_retv, b_cmp, b_and, b_or, b_not, b_ofi, b_ite, b_true, s_skip, s_set, j_ty, j_lset, j_kill, s_inc, s_fput, j_fput, s_fop, s_aput, j_aput, j_nar, s_aop, s_ret, s_retv, s_go, s_pop, x_linc, x_finc, Value.category, if_icmp.holds, List.flatMap_cons, List.flatMap_nil, List.length_cons, List.length_append, List.length_nil, List.set_cons_succ, List.set_cons_zero, List.getElem?_cons_succ, List.getElem?_cons_zero, List.replicate, ite_and', ite_or', ite_int', nI_leI, nI_ltI, nI_eq, nI_add, nI_1, pk_mul, nI_clamp, n_in', nI_pos', nI_pos, n_m1e, n_01, n_10, sT_1, sR_1_0, sR_1_1, sR_1_2, sR_1_3, sR_1_4, sR_1_5, sR_1_6, sR_1_7, sR_1_8, sR_1_9, sT_2, sT_3, sT_4, sT_5, sT_6, sT_7, sT_8, sT_9, sT_10, sT_11, sT_12, sT_13, sT_14, sR_2_1, sR_2_2, sR_2_3, sR_2_4, sR_2_5, sR_2_6, sR_2_7, sR_2_8, sR_2_9, sR_2_10, sR_2_11, sR_2_12, sT_15, sT_16, sT_17, sT_18, sT_19, sT_20, sT_21, sT_22, sT_23, sR_15_1, sR_15_2, sR_15_3, sR_15_4, sR_15_5, sR_15_6, sR_15_7, sR_15_8, sT_24, sT_25, sT_26, sT_27, sT_28, sT_29, sR_24_1, sR_24_2, sR_24_3, sR_24_4, sR_24_5, sT_71, sT_72, sR_71_0, sR_71_1, sR_71_2, sR_71_3, sR_71_4, sT_73, sT_74, sT_75, sR_73_0, sR_73_1, sR_73_2, sR_73_3, sR_73_4, sR_73_5, sT_84, sT_85, sT_86, sT_87, sR_84_0, sR_84_1, sR_84_2, sR_84_3, sR_84_4, sR_84_5, sT_88, sT_89, sR_88_0, sT_90, sT_91, sR_90_0, hi, e6, hz, q, hor, c6, hh7, eh]
      · rw [hr, hn20]
        simp only [oRun]
        rw [if_neg q]
        have : 20 - (i + 1) = n := by omega
        rw [this]
      · show _ = nI (s.2.2.1 + 1)
        rw [hI_setI, if_neg (by omega), hI_setI, if_pos ⟨rfl, rfl⟩]
      · show _ = nI (slM A (oHld A (s.1 ||| oNow A s)))
        rw [hI_setI, if_pos ⟨rfl, rfl⟩]
      · obtain ⟨j, j1, j2, j3⟩ := rs6 p hp
        exact ⟨j, j1, by rw [hI_setI, if_neg (by omega), hI_setI, if_neg (by omega)]; exact j2, j3⟩
  · rintro st ⟨h5, s, v, rfl, f5, oi, hl, hri, hr, b6, b8, rs⟩
    have hs5 := Fr_shape hs f5
    refine ⟨(.inl 0, ([.ref 84, .int (nI (slM A s.1)), .int (nI 20), v], h5)), ?_, h5, s, _, _, rfl, f5, oi, hl, by rw [hr]; rfl, b6, b8, by omega⟩
    clear x l ro rs f5 f12 f2 f1 oi hr
    generalize slM A s.1 = E at *
    simp (disch := first | assumption | omega) [lstp, lc_O_run_1, lb_O_run_1, lu_O_run_1, j_meth, j_out, j_rok, j_pad, lg_sl, s_seq_w, isN_inl, isN_inr, s_if, jb, x_c, x_iloc, x_aloc, x_lloc, x_bin, x_un, o_add, o_sub, o_mul, o_and, o_or, o_xor, o_shl, o_shr, o_ushr, o_max, o_min, o_i2b, o_i2c, o_i2l, o_l2i, x_fld, j_fget, x_idx, j_aget, x_len, j_alen, x_ofb, x_ite, xs_nil, xs_cons, x_callv, x_calls, s_callv, s_calls, j_recv, j_ret, j_retv, b_cmp, b_and, b_or, b_not, b_ofi, b_ite, b_true, s_skip, s_set, j_ty, j_lset, j_kill, s_inc, s_fput, j_fput, s_fop, s_aput, j_aput, j_nar, s_aop, s_ret, s_retv, s_go, s_pop, x_linc, x_finc, Value.category, if_icmp.holds, List.flatMap_cons, List.flatMap_nil, List.length_cons, List.length_append, List.length_nil, List.set_cons_succ, List.set_cons_zero, List.getElem?_cons_succ, List.getElem?_cons_zero, List.replicate, ite_and', ite_or', ite_int', nI_leI, nI_ltI, nI_eq, nI_add, nI_1, pk_mul, nI_clamp, n_in', nI_pos', nI_pos, n_m1e, n_01, n_10, sT_1, sR_1_0, sR_1_1, sR_1_2, sR_1_3, sR_1_4, sR_1_5, sR_1_6, sR_1_7, sR_1_8, sR_1_9, sT_2, sT_3, sT_4, sT_5, sT_6, sT_7, sT_8, sT_9, sT_10, sT_11, sT_12, sT_13, sT_14, sR_2_1, sR_2_2, sR_2_3, sR_2_4, sR_2_5, sR_2_6, sR_2_7, sR_2_8, sR_2_9, sR_2_10, sR_2_11, sR_2_12, sT_15, sT_16, sT_17, sT_18, sT_19, sT_20, sT_21, sT_22, sT_23, sR_15_1, sR_15_2, sR_15_3, sR_15_4, sR_15_5, sR_15_6, sR_15_7, sR_15_8, sT_24, sT_25, sT_26, sT_27, sT_28, sT_29, sR_24_1, sR_24_2, sR_24_3, sR_24_4, sR_24_5, sT_71, sT_72, sR_71_0, sR_71_1, sR_71_2, sR_71_3, sR_71_4, sT_73, sT_74, sT_75, sR_73_0, sR_73_1, sR_73_2, sR_73_3, sR_73_4, sR_73_5, sT_84, sT_85, sT_86, sT_87, sR_84_0, sR_84_1, sR_84_2, sR_84_3, sR_84_4, sR_84_5, sT_88, sT_89, sR_88_0, sT_90, sT_91, sR_90_0]
