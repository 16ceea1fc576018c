/-! gain -/
def EvL (A : AS) (L : Nat → List Nat) (s : OS) : Prop := (∀ b, s.1.testBit b = true → b ∈ L (aPe A b)) ∧ (∀ p, ∀ b ∈ s.2.2.2.2 p, b ∈ L p) ∧ ∀ b, s.2.1.testBit b = true → s.1.testBit b = true
theorem EvL_run {A : AS} (w : WF A) {L : Nat → List Nat} : ∀ n s, OIn A s → EvL A L s → EvL A L (oRun A n s) := by
  intro n
  induction n with
  | zero => intro s _ h; exact h
  | succ n ih =>
    intro s oi h
    simp only [oRun]
    by_cases h0 : oNow A s = 0
    · rw [if_pos h0]; exact h
    · rw [if_neg h0]
      refine ih _ (OIn_stp w oi h0).1 ⟨fun b hb => ?_, fun p b hb => h.2.1 p b (oTl_sub hb), fun b hb => ?_⟩
      · have hb' : (s.1 ||| oNow A s).testBit b = true := hb
        rw [Nat.testBit_or, Bool.or_eq_true] at hb'
        rcases hb' with q | q
        · exact h.1 b q
        · obtain ⟨p, -, ha⟩ := (oNow_bit A s b).mp q
          rw [(oAct_in oi ha).2.1]
          exact h.2.1 p b (oAct_mem ha)
      · have hb' : (oHld A (s.1 ||| oNow A s)).testBit b = true := hb
        unfold oHld at hb'
        rw [nfo_or_bit] at hb'
        obtain ⟨f, -, q⟩ := hb'
        have := (take_spec w f _).2.1 b q
        rw [Nat.testBit_and, Bool.and_eq_true] at this
        exact this.1
theorem hon_ok {A : AS} (w : WF A) {p : Nat} (hc : sCpl A p = none) {s : OS} (hsq : s = oRun A 36 (0, 0, 0, 0, lL A)) : ∃ r, sRnk A s.2.1 p = some r ∧ r ≤ (aLl A p).length := by
  have h := EvL_run w (L := lL A) 36 (0, 0, 0, 0, lL A) (OIn_ini (lL_ok w)) ⟨fun b hb => by simp at hb, fun p b hb => hb, fun b hb => by simp at hb⟩
  rw [← hsq] at h
  unfold sRnk
  cases hb : sBnd A s.2.1 p with
  | none => exact ⟨_, rfl, Nat.le_refl _⟩
  | some b =>
    obtain ⟨h1, h2, -⟩ := fst1_some hb
    simp only [Bool.and_eq_true, beq_iff_eq] at h2
    have hm := h.1 b (h.2.2 b h2.1)
    rw [h2.2] at hm
    unfold lL at hm
    rw [hc] at hm
    simp only [Option.isNone_none, if_true] at hm
    cases hpl : sPlc A b with
    | none => exact absurd (by rw [h2.2]; exact hm) (sPlc_none.mp hpl)
    | some k =>
      refine ⟨k, hpl, ?_⟩
      unfold sPlc at hpl
      rw [h2.2] at hpl
      exact Nat.le_of_lt (fst1_lt hpl)
theorem e_S_gain_2 {p : Nat} {l : List Nat} {h : jHp} (hs : Shape h) (hp : p < 7) (hl : l.length ≤ 5) (g : ∀ k, k < l.length → hI h 85 (5 * p + k) = nI (l.getD k 0)) (c : CRw [] h) (v2 : Int32) : ∃ h', s_loop 3 4 lc_S_gain_2 lb_S_gain_2 lu_S_gain_2 ([.ref 1, .int (nI p), .int v2, .int (nI l.length), .int (nI 0)], h) = some (.inl 0, ([.ref 1, .int (nI p), .int v2, .int (nI l.length), .int (nI l.length)], h')) ∧ Fr W90 h h' ∧ CRw (l.map nI) h' := by
  have hL := loop_wp (lb := 3) (lc := 4) (c := lc_S_gain_2) (b := lb_S_gain_2) (u := lu_S_gain_2) l.length
    (fun i st => ∃ h', st = ([.ref 1, .int (nI p), .int v2, .int (nI l.length), .int (nI i)], h') ∧ Fr W90 h h' ∧ CRw ((l.take i).map nI) h')
    (fun r => ∃ h', r = (.inl 0, ([.ref 1, .int (nI p), .int v2, .int (nI l.length), .int (nI l.length)], h')) ∧ Fr W90 h h' ∧ CRw ((l.take l.length).map nI) h')
    ?_ ?_ ([.ref 1, .int (nI p), .int v2, .int (nI l.length), .int (nI 0)], h) ⟨h, rfl, Fr_refl _ _, by simpa using c⟩
  · obtain ⟨r, e, h', rfl, f, c'⟩ := hL
    rw [List.take_length] at c'
    exact ⟨h', e, f, c'⟩
  · rintro i st hi ⟨h1, rfl, f1, c1⟩
    left
    have hs1 := Fr_shape hs f1
    have a85 : hI h1 85 (5 * p + i) = nI (l.getD i 0) := by rw [Fr_I f1 (by unfold W90; omega)]; exact g i hi
    obtain ⟨h2, e2, f2, c2⟩ := e_R_add hs1 c1 (by rw [List.length_map, List.length_take]; omega) (nI (l.getD i 0))
    have hs2 := Fr_shape hs1 f2
    refine ⟨([.ref 1, .int (nI p), .int v2, .int (nI l.length), .int (nI (i + 1))], h2), ?_, h2, rfl, Fr_trans f1 f2, ?_⟩
    · generalize l.getD i 0 = b at *
      generalize l.length = n at *
      have e5 : p * 5 + i = 5 * p + i := by omega
      simp (disch := first | assumption | omega) [lstp, lc_S_gain_2, lb_S_gain_2, lu_S_gain_2, j_meth, j_out, j_rok, j_pad, lg_sl, s_seq_w, isN_inl, isN_inr, s_if, jb, x_c, x_iloc, x_aloc, x_lloc, x_bin, x_un, o_add, o_sub, o_mul, o_and, o_or, o_xor, o_shl, o_shr, o_ushr, o_max, o_min, o_i2b, o_i2c, o_i2l, o_l2i, x_fld, j_fget, x_idx, j_aget, x_len, j_alen, x_ofb, x_ite, xs_nil, xs_cons, x_callv, x_calls, s_callv, s_calls, j_recv, j_ret, j_retv, b_cmp, b_and, b_or, b_not, b_ofi, b_ite, b_true, s_skip, s_set, j_ty, j_lset, j_kill, s_inc, s_fput, j_fput, s_fop, s_aput, j_aput, j_nar, s_aop, s_ret, s_retv, s_go, s_pop, x_linc, x_finc, Value.category, if_icmp.holds, List.flatMap_cons, List.flatMap_nil, List.length_cons, List.length_append, List.length_nil, List.set_cons_succ, List.set_cons_zero, List.getElem?_cons_succ, List.getElem?_cons_zero, List.replicate, ite_and', ite_or', ite_int', nI_leI, nI_ltI, nI_eq, nI_add, nI_1, pk_mul, nI_clamp, n_in', nI_pos', nI_pos, n_m1e, n_01, n_10, sT_1, sR_1_0, sR_1_1, sR_1_2, sR_1_3, sR_1_4, sR_1_5, sR_1_6, sR_1_7, sR_1_8, sR_1_9, sT_2, sT_3, sT_4, sT_5, sT_6, sT_7, sT_8, sT_9, sT_10, sT_11, sT_12, sT_13, sT_14, sR_2_1, sR_2_2, sR_2_3, sR_2_4, sR_2_5, sR_2_6, sR_2_7, sR_2_8, sR_2_9, sR_2_10, sR_2_11, sR_2_12, sT_15, sT_16, sT_17, sT_18, sT_19, sT_20, sT_21, sT_22, sT_23, sR_15_1, sR_15_2, sR_15_3, sR_15_4, sR_15_5, sR_15_6, sR_15_7, sR_15_8, sT_24, sT_25, sT_26, sT_27, sT_28, sT_29, sR_24_1, sR_24_2, sR_24_3, sR_24_4, sR_24_5, sT_71, sT_72, sR_71_0, sR_71_1, sR_71_2, sR_71_3, sR_71_4, sT_73, sT_74, sT_75, sR_73_0, sR_73_1, sR_73_2, sR_73_3, sR_73_4, sR_73_5, sT_84, sT_85, sT_86, sT_87, sR_84_0, sR_84_1, sR_84_2, sR_84_3, sR_84_4, sR_84_5, sT_88, sT_89, sR_88_0, sT_90, sT_91, sR_90_0, hi, e5, a85, e2]
    · have : (l.take (i + 1)).map nI = (l.take i).map nI ++ [nI (l.getD i 0)] := by
        rw [List.take_succ, List.map_append, List.getD_eq_getElem?_getD, List.getElem?_eq_getElem hi]
        rfl
      rw [this]; exact c2
  · rintro st ⟨h1, rfl, f1, c1⟩
    have hs1 := Fr_shape hs f1
    refine ⟨_, ?_, h1, rfl, f1, c1⟩
    generalize l.length = n at *
    simp (disch := first | assumption | omega) [lstp, lc_S_gain_2, lb_S_gain_2, lu_S_gain_2, j_meth, j_out, j_rok, j_pad, lg_sl, s_seq_w, isN_inl, isN_inr, s_if, jb, x_c, x_iloc, x_aloc, x_lloc, x_bin, x_un, o_add, o_sub, o_mul, o_and, o_or, o_xor, o_shl, o_shr, o_ushr, o_max, o_min, o_i2b, o_i2c, o_i2l, o_l2i, x_fld, j_fget, x_idx, j_aget, x_len, j_alen, x_ofb, x_ite, xs_nil, xs_cons, x_callv, x_calls, s_callv, s_calls, j_recv, j_ret, j_retv, b_cmp, b_and, b_or, b_not, b_ofi, b_ite, b_true, s_skip, s_set, j_ty, j_lset, j_kill, s_inc, s_fput, j_fput, s_fop, s_aput, j_aput, j_nar, s_aop, s_ret, s_retv, s_go, s_pop, x_linc, x_finc, Value.category, if_icmp.holds, List.flatMap_cons, List.flatMap_nil, List.length_cons, List.length_append, List.length_nil, List.set_cons_succ, List.set_cons_zero, List.getElem?_cons_succ, List.getElem?_cons_zero, List.replicate, ite_and', ite_or', ite_int', nI_leI, nI_ltI, nI_eq, nI_add, nI_1, pk_mul, nI_clamp, n_in', nI_pos', nI_pos, n_m1e, n_01, n_10, sT_1, sR_1_0, sR_1_1, sR_1_2, sR_1_3, sR_1_4, sR_1_5, sR_1_6, sR_1_7, sR_1_8, sR_1_9, sT_2, sT_3, sT_4, sT_5, sT_6, sT_7, sT_8, sT_9, sT_10, sT_11, sT_12, sT_13, sT_14, sR_2_1, sR_2_2, sR_2_3, sR_2_4, sR_2_5, sR_2_6, sR_2_7, sR_2_8, sR_2_9, sR_2_10, sR_2_11, sR_2_12, sT_15, sT_16, sT_17, sT_18, sT_19, sT_20, sT_21, sT_22, sT_23, sR_15_1, sR_15_2, sR_15_3, sR_15_4, sR_15_5, sR_15_6, sR_15_7, sR_15_8, sT_24, sT_25, sT_26, sT_27, sT_28, sT_29, sR_24_1, sR_24_2, sR_24_3, sR_24_4, sR_24_5, sT_71, sT_72, sR_71_0, sR_71_1, sR_71_2, sR_71_3, sR_71_4, sT_73, sT_74, sT_75, sR_73_0, sR_73_1, sR_73_2, sR_73_3, sR_73_4, sR_73_5, sT_84, sT_85, sT_86, sT_87, sR_84_0, sR_84_1, sR_84_2, sR_84_3, sR_84_4, sR_84_5, sT_88, sT_89, sR_88_0, sT_90, sT_91, sR_90_0]
theorem gn_fst {A : AS} (w : WF A) (p : Nat) (hon : Int32) : sGnN A p hon = fst1 (fun n => (lieF A p hon (n + 1) []).isSome) (nP A p) := by
  have h5 : nP A p ≤ 5 := w.2.2.1.2.2.2 p
  unfold sGnN
  refine fst1_ext h5 fun i h1 h2 => ?_
  rw [lie_no w (by omega)]
  rfl
theorem o_S_gain {A : AS} {tx : List Nat} {rw : List Int32} {h : jHp} (r : RC A tx rw h) (x : Int32) : ∃ h', f_S_gain [.ref 1, .int x] h = some (some (.int (vGain A rw x).1), h') ∧ RC A tx (vGain A rw x).2 h' ∧ FC h h' := by
  have r0 := r
  obtain ⟨mk, ⟨ca, bl, d, sp⟩, c11, ct, cr, cs⟩ := r
  have hs := mk.1.1
  have w := mk.1.2.1
  have hn := w.1.1
  have ei := e_P_isSingle hs w mk.1.2.2.2 x
  have h10 : ((1 : Int32) = 0) = False := by decide
  unfold vGain
  by_cases hx : j_in x (aNp A) = true ∧ sCpl A x.toNatClampNeg = none
  case neg =>
    rw [if_neg hx] at ei ⊢
    refine ⟨h, ?_, r0, FC_refl h⟩
    simp (disch := first | assumption | omega) [f_S_gain, body_S_gain, j_meth, j_out, j_rok, j_pad, lg_sl, s_seq_w, isN_inl, isN_inr, s_if, jb, x_c, x_iloc, x_aloc, x_lloc, x_bin, x_un, o_add, o_sub, o_mul, o_and, o_or, o_xor, o_shl, o_shr, o_ushr, o_max, o_min, o_i2b, o_i2c, o_i2l, o_l2i, x_fld, j_fget, x_idx, j_aget, x_len, j_alen, x_ofb, x_ite, xs_nil, xs_cons, x_callv, x_calls, s_callv, s_calls, j_recv, j_ret, j_retv, b_cmp, b_and, b_or, b_not, b_ofi, b_ite, b_true, s_skip, s_set, j_ty, j_lset, j_kill, s_inc, s_fput, j_fput, s_fop, s_aput, j_aput, j_nar, s_aop, s_ret, s_retv, s_go, s_pop, x_linc, x_finc, Value.category, if_icmp.holds, List.flatMap_cons, List.flatMap_nil, List.length_cons, List.length_append, List.length_nil, List.set_cons_succ, List.set_cons_zero, List.getElem?_cons_succ, List.getElem?_cons_zero, List.replicate, ite_and', ite_or', ite_int', nI_leI, nI_ltI, nI_eq, nI_add, nI_1, pk_mul, nI_clamp, n_in', nI_pos', nI_pos, n_m1e, n_01, n_10, sT_1, sR_1_0, sR_1_1, sR_1_2, sR_1_3, sR_1_4, sR_1_5, sR_1_6, sR_1_7, sR_1_8, sR_1_9, sT_2, sT_3, sT_4, sT_5, sT_6, sT_7, sT_8, sT_9, sT_10, sT_11, sT_12, sT_13, sT_14, sR_2_1, sR_2_2, sR_2_3, sR_2_4, sR_2_5, sR_2_6, sR_2_7, sR_2_8, sR_2_9, sR_2_10, sR_2_11, sR_2_12, sT_15, sT_16, sT_17, sT_18, sT_19, sT_20, sT_21, sT_22, sT_23, sR_15_1, sR_15_2, sR_15_3, sR_15_4, sR_15_5, sR_15_6, sR_15_7, sR_15_8, sT_24, sT_25, sT_26, sT_27, sT_28, sT_29, sR_24_1, sR_24_2, sR_24_3, sR_24_4, sR_24_5, sT_71, sT_72, sR_71_0, sR_71_1, sR_71_2, sR_71_3, sR_71_4, sT_73, sT_74, sT_75, sR_73_0, sR_73_1, sR_73_2, sR_73_3, sR_73_4, sR_73_5, sT_84, sT_85, sT_86, sT_87, sR_84_0, sR_84_1, sR_84_2, sR_84_3, sR_84_4, sR_84_5, sT_88, sT_89, sR_88_0, sT_90, sT_91, sR_90_0, ei]
  rw [if_pos hx] at ei ⊢
  obtain ⟨hx1, hc⟩ := hx
  obtain ⟨p, hp, rfl⟩ := j_in_ex hx1 (by omega)
  rw [nI_clamp (by omega)] at hc ⊢
  obtain ⟨h1, bl1, e1, f1, o1, d1, ro1⟩ := e_O_load mk d
  have hs1 := o1.1.1.1
  obtain ⟨h2, s, hsq, e2, f2, b6, b7, b8, hl, -⟩ := e_O_run o1 (lL_ok w) ro1
  have o2 := OT_fr o1 f2 fun a j q => by unfold W847 at q; omega
  have hs2 := o2.1.1.1
  have ro2 := RO_fr ro1 f2 fun a j q => by unfold W847 at q; omega
  have d2 : DK A ca bl1 h2 := DK_ok d1 f2 fun a j q => by unfold W847 at q; omega
  have hso : sOut A none none none = s := by unfold sOut; rw [ini_lL, hsq]
  have hz : sOuV A none none none = if popN 32 (sPpl A s.2.1) = popN 32 s.2.1 then some s.2.1 else none := by unfold sOuV; rw [hso]
  have cr2 : CRw rw h2 := CRw_fr (W := fun a j => Wld a j ∨ W847 a j) cr (Fr_trans (Fr_mono f1 fun a j q => Or.inl q) (Fr_mono f2 fun a j q => Or.inr q)) fun a j q => by
    rcases q with (q | q) | q
    · have := Wds_lt q; omega
    · unfold W856 at q; omega
    · unfold W847 at q; omega
  have f12 : Fr okW h h2 := Fr_trans (Fr_mono f1 fun a j q => Wld_ok q) (Fr_mono f2 fun a j q => W847_ok q)
  have fin2 := RC_mk r0 d sp f12 (fun a j q => q) d2 cr2
  rw [hz]
  by_cases q1 : popN 32 (sPpl A s.2.1) = popN 32 s.2.1
  case neg =>
    rw [if_neg q1] at e2
    rw [if_neg q1]
    refine ⟨h2, ?_, fin2⟩
    simp (disch := first | assumption | omega) [f_S_gain, body_S_gain, j_meth, j_out, j_rok, j_pad, lg_sl, s_seq_w, isN_inl, isN_inr, s_if, jb, x_c, x_iloc, x_aloc, x_lloc, x_bin, x_un, o_add, o_sub, o_mul, o_and, o_or, o_xor, o_shl, o_shr, o_ushr, o_max, o_min, o_i2b, o_i2c, o_i2l, o_l2i, x_fld, j_fget, x_idx, j_aget, x_len, j_alen, x_ofb, x_ite, xs_nil, xs_cons, x_callv, x_calls, s_callv, s_calls, j_recv, j_ret, j_retv, b_cmp, b_and, b_or, b_not, b_ofi, b_ite, b_true, s_skip, s_set, j_ty, j_lset, j_kill, s_inc, s_fput, j_fput, s_fop, s_aput, j_aput, j_nar, s_aop, s_ret, s_retv, s_go, s_pop, x_linc, x_finc, Value.category, if_icmp.holds, List.flatMap_cons, List.flatMap_nil, List.length_cons, List.length_append, List.length_nil, List.set_cons_succ, List.set_cons_zero, List.getElem?_cons_succ, List.getElem?_cons_zero, List.replicate, ite_and', ite_or', ite_int', nI_leI, nI_ltI, nI_eq, nI_add, nI_1, pk_mul, nI_clamp, n_in', nI_pos', nI_pos, n_m1e, n_01, n_10, sT_1, sR_1_0, sR_1_1, sR_1_2, sR_1_3, sR_1_4, sR_1_5, sR_1_6, sR_1_7, sR_1_8, sR_1_9, sT_2, sT_3, sT_4, sT_5, sT_6, sT_7, sT_8, sT_9, sT_10, sT_11, sT_12, sT_13, sT_14, sR_2_1, sR_2_2, sR_2_3, sR_2_4, sR_2_5, sR_2_6, sR_2_7, sR_2_8, sR_2_9, sR_2_10, sR_2_11, sR_2_12, sT_15, sT_16, sT_17, sT_18, sT_19, sT_20, sT_21, sT_22, sT_23, sR_15_1, sR_15_2, sR_15_3, sR_15_4, sR_15_5, sR_15_6, sR_15_7, sR_15_8, sT_24, sT_25, sT_26, sT_27, sT_28, sT_29, sR_24_1, sR_24_2, sR_24_3, sR_24_4, sR_24_5, sT_71, sT_72, sR_71_0, sR_71_1, sR_71_2, sR_71_3, sR_71_4, sT_73, sT_74, sT_75, sR_73_0, sR_73_1, sR_73_2, sR_73_3, sR_73_4, sR_73_5, sT_84, sT_85, sT_86, sT_87, sR_84_0, sR_84_1, sR_84_2, sR_84_3, sR_84_4, sR_84_5, sT_88, sT_89, sR_88_0, sT_90, sT_91, sR_90_0, ei, h10, e1, e2, nI_0]
  rw [if_pos q1] at e2
  rw [if_pos q1]
  have mS := (sMat_pop w hl).mp q1
  have er := e_O_rankHeldBy o2.1 hp mS b8
  obtain ⟨rr, hrr, hrl⟩ := hon_ok w hc hsq
  have hrk : rkH A s.2.1 p = rr := by
    unfold rkH
    unfold sRnk at hrr
    cases hb : sBnd A s.2.1 p with
    | none => rw [hb] at hrr; simpa using hrr
    | some b => rw [hb] at hrr; simp only at hrr ⊢; rw [hrr]; rfl
  rw [hrk] at er
  simp only
  rw [hrr, oI_s, gn_fst w]
  have h5 : nP A p ≤ 5 := w.2.2.1.2.2.2 p
  have g0 : GL A p [] h2 := ⟨fun q hq _ => ro2 q hq, fun k hk => by simp at hk⟩
  have u0 : usd A p [] 0 := ⟨by decide, fun i _ => by simp⟩
  have hL := loop_wp (lb := 1) (lc := 2) (c := lc_S_gain_1) (b := lb_S_gain_1) (u := lu_S_gain_1) (nP A p)
    (fun i st => ∃ h', st = ([.ref 1, .int (nI p), .int (nI rr), .int (nI (i + 1)), .null], h') ∧ Fr (Wgl p) h2 h' ∧ GL A p [] h' ∧ ∀ m, m < i → (lieF A p (nI rr) (m + 1) []).isSome = false)
    (fun q => ∃ h' K, (q = (.inl 0, (K, h')) ∧ Fr (Wgl p) h2 h' ∧ fst1 (fun n => (lieF A p (nI rr) (n + 1) []).isSome) (nP A p) = none) ∨ (∃ h3 n l, q = (.inr (some (.int (nI 1))), (K, h')) ∧ Fr (Wgl p) h2 h3 ∧ Fr W90 h3 h' ∧ fst1 (fun n => (lieF A p (nI rr) (n + 1) []).isSome) (nP A p) = some n ∧ lieF A p (nI rr) (n + 1) [] = some l ∧ CRw (l.map nI) h'))
    ?_ ?_ ([.ref 1, .int (nI p), .int (nI rr), .int (nI 1), .null], h2) ⟨h2, rfl, Fr_refl _ _, g0, fun m hm => by omega⟩
  · obtain ⟨q, e, h4, K, ⟨rfl, f4, hf⟩ | ⟨h3, n, l, rfl, f3, f4, hf, hlf, c4⟩⟩ := hL
    · rw [hf]
      have fo : Fr okW h2 h4 := Fr_mono f4 fun a j q => (Wgl_71 q).2.2
      have d4 : DK A ca bl1 h4 := DK_ok d2 f4 fun a j q => by have := Wgl_71 q; omega
      have fin4 := RC_mk fin2.1 d2 ⟨by rw [f12.1.2.1]; exact sp.1, sp.2⟩ fo (fun a j q => q) d4 (CRw_fr cr2 f4 fun a j q => by unfold Wgl W847 at q; omega)
      refine ⟨h4, ?_, fin4.1, FC_trans fin2.2 fin4.2⟩
      clear d d1 d2 d4 o1 o2 ro1 ro2 f1 f2 f12 f4 fo fin2 fin4 cr2 hz hso hsq g0 u0 mk r0
      simp (disch := first | assumption | omega) [f_S_gain, body_S_gain, j_meth, j_out, j_rok, j_pad, lg_sl, s_seq_w, isN_inl, isN_inr, s_if, jb, x_c, x_iloc, x_aloc, x_lloc, x_bin, x_un, o_add, o_sub, o_mul, o_and, o_or, o_xor, o_shl, o_shr, o_ushr, o_max, o_min, o_i2b, o_i2c, o_i2l, o_l2i, x_fld, j_fget, x_idx, j_aget, x_len, j_alen, x_ofb, x_ite, xs_nil, xs_cons, x_callv, x_calls, s_callv, s_calls, j_recv, j_ret, j_retv, b_cmp, b_and, b_or, b_not, b_ofi, b_ite, b_true, s_skip, s_set, j_ty, j_lset, j_kill, s_inc, s_fput, j_fput, s_fop, s_aput, j_aput, j_nar, s_aop, s_ret, s_retv, s_go, s_pop, x_linc, x_finc, Value.category, if_icmp.holds, List.flatMap_cons, List.flatMap_nil, List.length_cons, List.length_append, List.length_nil, List.set_cons_succ, List.set_cons_zero, List.getElem?_cons_succ, List.getElem?_cons_zero, List.replicate, ite_and', ite_or', ite_int', nI_leI, nI_ltI, nI_eq, nI_add, nI_1, pk_mul, nI_clamp, n_in', nI_pos', nI_pos, n_m1e, n_01, n_10, sT_1, sR_1_0, sR_1_1, sR_1_2, sR_1_3, sR_1_4, sR_1_5, sR_1_6, sR_1_7, sR_1_8, sR_1_9, sT_2, sT_3, sT_4, sT_5, sT_6, sT_7, sT_8, sT_9, sT_10, sT_11, sT_12, sT_13, sT_14, sR_2_1, sR_2_2, sR_2_3, sR_2_4, sR_2_5, sR_2_6, sR_2_7, sR_2_8, sR_2_9, sR_2_10, sR_2_11, sR_2_12, sT_15, sT_16, sT_17, sT_18, sT_19, sT_20, sT_21, sT_22, sT_23, sR_15_1, sR_15_2, sR_15_3, sR_15_4, sR_15_5, sR_15_6, sR_15_7, sR_15_8, sT_24, sT_25, sT_26, sT_27, sT_28, sT_29, sR_24_1, sR_24_2, sR_24_3, sR_24_4, sR_24_5, sT_71, sT_72, sR_71_0, sR_71_1, sR_71_2, sR_71_3, sR_71_4, sT_73, sT_74, sT_75, sR_73_0, sR_73_1, sR_73_2, sR_73_3, sR_73_4, sR_73_5, sT_84, sT_85, sT_86, sT_87, sR_84_0, sR_84_1, sR_84_2, sR_84_3, sR_84_4, sR_84_5, sT_88, sT_89, sR_88_0, sT_90, sT_91, sR_90_0, ei, h10, e1, e2, er, e, nI_0]
    · rw [hf]
      simp only
      rw [hlf]
      have d3 : DK A ca bl1 h3 := DK_ok d2 f3 fun a j q => by have := Wgl_71 q; omega
      have d4 := DK_90 d3 f4
      have fo : Fr okW h2 h4 := Fr_trans (Fr_mono f3 fun a j q => (Wgl_71 q).2.2) (Fr_mono f4 fun a j q => W90_ok q)
      have fin4 := RC_mk fin2.1 d2 ⟨by rw [f12.1.2.1]; exact sp.1, sp.2⟩ fo (fun a j q => q) d4 c4
      refine ⟨h4, ?_, fin4.1, FC_trans fin2.2 fin4.2⟩
      clear d d1 d2 d3 d4 o1 o2 ro1 ro2 f1 f2 f12 f3 f4 fo fin2 fin4 cr2 hz hso hsq g0 u0 mk r0 c4
      simp (disch := first | assumption | omega) [f_S_gain, body_S_gain, j_meth, j_out, j_rok, j_pad, lg_sl, s_seq_w, isN_inl, isN_inr, s_if, jb, x_c, x_iloc, x_aloc, x_lloc, x_bin, x_un, o_add, o_sub, o_mul, o_and, o_or, o_xor, o_shl, o_shr, o_ushr, o_max, o_min, o_i2b, o_i2c, o_i2l, o_l2i, x_fld, j_fget, x_idx, j_aget, x_len, j_alen, x_ofb, x_ite, xs_nil, xs_cons, x_callv, x_calls, s_callv, s_calls, j_recv, j_ret, j_retv, b_cmp, b_and, b_or, b_not, b_ofi, b_ite, b_true, s_skip, s_set, j_ty, j_lset, j_kill, s_inc, s_fput, j_fput, s_fop, s_aput, j_aput, j_nar, s_aop, s_ret, s_retv, s_go, s_pop, x_linc, x_finc, Value.category, if_icmp.holds, List.flatMap_cons, List.flatMap_nil, List.length_cons, List.length_append, List.length_nil, List.set_cons_succ, List.set_cons_zero, List.getElem?_cons_succ, List.getElem?_cons_zero, List.replicate, ite_and', ite_or', ite_int', nI_leI, nI_ltI, nI_eq, nI_add, nI_1, pk_mul, nI_clamp, n_in', nI_pos', nI_pos, n_m1e, n_01, n_10, sT_1, sR_1_0, sR_1_1, sR_1_2, sR_1_3, sR_1_4, sR_1_5, sR_1_6, sR_1_7, sR_1_8, sR_1_9, sT_2, sT_3, sT_4, sT_5, sT_6, sT_7, sT_8, sT_9, sT_10, sT_11, sT_12, sT_13, sT_14, sR_2_1, sR_2_2, sR_2_3, sR_2_4, sR_2_5, sR_2_6, sR_2_7, sR_2_8, sR_2_9, sR_2_10, sR_2_11, sR_2_12, sT_15, sT_16, sT_17, sT_18, sT_19, sT_20, sT_21, sT_22, sT_23, sR_15_1, sR_15_2, sR_15_3, sR_15_4, sR_15_5, sR_15_6, sR_15_7, sR_15_8, sT_24, sT_25, sT_26, sT_27, sT_28, sT_29, sR_24_1, sR_24_2, sR_24_3, sR_24_4, sR_24_5, sT_71, sT_72, sR_71_0, sR_71_1, sR_71_2, sR_71_3, sR_71_4, sT_73, sT_74, sT_75, sR_73_0, sR_73_1, sR_73_2, sR_73_3, sR_73_4, sR_73_5, sT_84, sT_85, sT_86, sT_87, sR_84_0, sR_84_1, sR_84_2, sR_84_3, sR_84_4, sR_84_5, sT_88, sT_89, sR_88_0, sT_90, sT_91, sR_90_0, ei, h10, e1, e2, er, e, n_e1]
      try decide
  · rintro i st hi ⟨h3, rfl, f3, g3, hall⟩
    have o3 := OT_fr o2 f3 fun a j q => by have := Wgl_71 q; omega
    have hs3 := o3.1.1.1
    have c11' : hI h3 11 p = nI (nP A p) := (o3.1.1.2.2.1.2.2.2 p (by omega)).1
    obtain ⟨h4, e4, f4, g4⟩ := gl_rec w hp hc hrl (i + 1) 10 [] 0 h3 (by omega) (by simp; omega) u0 List.nodup_nil (fun b hb => by simp at hb) o3 g3
    have hs4 := Fr_shape hs3 f4
    have el : ([] : List Nat).length + (i + 1) = i + 1 := by simp
    rw [el] at e4
    have el0 : ([] : List Nat).length = 0 := rfl
    rw [el0] at e4
    have hi1 : i + 1 ≤ nP A p := hi
    cases hv : lieF A p (nI rr) (i + 1) [] with
    | none =>
      left
      rw [hv] at e4 g4
      simp only [Option.isSome_none, Bool.false_eq_true, if_false] at e4
      refine ⟨([.ref 1, .int (nI p), .int (nI rr), .int (nI (i + 1 + 1)), .null], h4), ?_, h4, rfl, Fr_trans f3 f4, g4, fun m hm => ?_⟩
      · clear d d1 d2 o1 o2 o3 ro1 ro2 f1 f2 f12 f3 f4 fin2 cr2 hz hso hsq g0 g3 g4 u0 mk r0 hall
        simp only [nI_0] at e4
        simp (disch := first | assumption | omega) [lstp, lc_S_gain_1, lb_S_gain_1, lu_S_gain_1, j_meth, j_out, j_rok, j_pad, lg_sl, s_seq_w, isN_inl, isN_inr, s_if, jb, x_c, x_iloc, x_aloc, x_lloc, x_bin, x_un, o_add, o_sub, o_mul, o_and, o_or, o_xor, o_shl, o_shr, o_ushr, o_max, o_min, o_i2b, o_i2c, o_i2l, o_l2i, x_fld, j_fget, x_idx, j_aget, x_len, j_alen, x_ofb, x_ite, xs_nil, xs_cons, x_callv, x_calls, s_callv, s_calls, j_recv, j_ret, j_retv, b_cmp, b_and, b_or, b_not, b_ofi, b_ite, b_true, s_skip, s_set, j_ty, j_lset, j_kill, s_inc, s_fput, j_fput, s_fop, s_aput, j_aput, j_nar, s_aop, s_ret, s_retv, s_go, s_pop, x_linc, x_finc, Value.category, if_icmp.holds, List.flatMap_cons, List.flatMap_nil, List.length_cons, List.length_append, List.length_nil, List.set_cons_succ, List.set_cons_zero, List.getElem?_cons_succ, List.getElem?_cons_zero, List.replicate, ite_and', ite_or', ite_int', nI_leI, nI_ltI, nI_eq, nI_add, nI_1, pk_mul, nI_clamp, n_in', nI_pos', nI_pos, n_m1e, n_01, n_10, sT_1, sR_1_0, sR_1_1, sR_1_2, sR_1_3, sR_1_4, sR_1_5, sR_1_6, sR_1_7, sR_1_8, sR_1_9, sT_2, sT_3, sT_4, sT_5, sT_6, sT_7, sT_8, sT_9, sT_10, sT_11, sT_12, sT_13, sT_14, sR_2_1, sR_2_2, sR_2_3, sR_2_4, sR_2_5, sR_2_6, sR_2_7, sR_2_8, sR_2_9, sR_2_10, sR_2_11, sR_2_12, sT_15, sT_16, sT_17, sT_18, sT_19, sT_20, sT_21, sT_22, sT_23, sR_15_1, sR_15_2, sR_15_3, sR_15_4, sR_15_5, sR_15_6, sR_15_7, sR_15_8, sT_24, sT_25, sT_26, sT_27, sT_28, sT_29, sR_24_1, sR_24_2, sR_24_3, sR_24_4, sR_24_5, sT_71, sT_72, sR_71_0, sR_71_1, sR_71_2, sR_71_3, sR_71_4, sT_73, sT_74, sT_75, sR_73_0, sR_73_1, sR_73_2, sR_73_3, sR_73_4, sR_73_5, sT_84, sT_85, sT_86, sT_87, sR_84_0, sR_84_1, sR_84_2, sR_84_3, sR_84_4, sR_84_5, sT_88, sT_89, sR_88_0, sT_90, sT_91, sR_90_0, c11', hi1, nI_0, e4]
      · by_cases e : m = i
        · rw [e, hv]; rfl
        · exact hall m (by omega)
    | some l =>
      right
      rw [hv] at e4 g4
      simp only [Option.isSome_some, if_true] at e4
      simp only [Option.getD_some] at g4
      obtain ⟨m, m1, m2, -, -⟩ := lie_len _ _ _ hv
      have hll : l.length = i + 1 := by rw [m1]; simpa using m2
      obtain ⟨h5', e5, f5, c5⟩ := e_R_empty hs4
      have hs5 := Fr_shape hs4 f5
      obtain ⟨h6, e6, f6, c6⟩ := e_S_gain_2 (p := p) (l := l) hs5 (by omega) (by omega) (fun k hk => by rw [Fr_I f5 (by unfold W90; omega)]; exact g4.2 k hk) c5 (nI rr)
      have hs6 := Fr_shape hs5 f6
      have hf := fst1_of (p := fun n => (lieF A p (nI rr) (n + 1) []).isSome) hi (by simp only [hv]; rfl) hall
      refine ⟨(.inr (some (.int (nI 1))), ([.ref 1, .int (nI p), .int (nI rr), .int (nI (i + 1)), .int (nI (i + 1))], h6)), ?_, h6, _, Or.inr ⟨h4, i, l, rfl, Fr_trans f3 f4, Fr_trans f5 f6, hf, hv, c6⟩⟩
      rw [hll] at e6
      clear d d1 d2 o1 o2 o3 ro1 ro2 f1 f2 f12 f3 f4 f5 f6 fin2 cr2 hz hso hsq g0 g3 g4 u0 mk r0 hall hf c5 c6
      simp only [nI_0] at e4 e6
      simp (disch := first | assumption | omega) [lstp, lc_S_gain_1, lb_S_gain_1, lu_S_gain_1, j_meth, j_out, j_rok, j_pad, lg_sl, s_seq_w, isN_inl, isN_inr, s_if, jb, x_c, x_iloc, x_aloc, x_lloc, x_bin, x_un, o_add, o_sub, o_mul, o_and, o_or, o_xor, o_shl, o_shr, o_ushr, o_max, o_min, o_i2b, o_i2c, o_i2l, o_l2i, x_fld, j_fget, x_idx, j_aget, x_len, j_alen, x_ofb, x_ite, xs_nil, xs_cons, x_callv, x_calls, s_callv, s_calls, j_recv, j_ret, j_retv, b_cmp, b_and, b_or, b_not, b_ofi, b_ite, b_true, s_skip, s_set, j_ty, j_lset, j_kill, s_inc, s_fput, j_fput, s_fop, s_aput, j_aput, j_nar, s_aop, s_ret, s_retv, s_go, s_pop, x_linc, x_finc, Value.category, if_icmp.holds, List.flatMap_cons, List.flatMap_nil, List.length_cons, List.length_append, List.length_nil, List.set_cons_succ, List.set_cons_zero, List.getElem?_cons_succ, List.getElem?_cons_zero, List.replicate, ite_and', ite_or', ite_int', nI_leI, nI_ltI, nI_eq, nI_add, nI_1, pk_mul, nI_clamp, n_in', nI_pos', nI_pos, n_m1e, n_01, n_10, sT_1, sR_1_0, sR_1_1, sR_1_2, sR_1_3, sR_1_4, sR_1_5, sR_1_6, sR_1_7, sR_1_8, sR_1_9, sT_2, sT_3, sT_4, sT_5, sT_6, sT_7, sT_8, sT_9, sT_10, sT_11, sT_12, sT_13, sT_14, sR_2_1, sR_2_2, sR_2_3, sR_2_4, sR_2_5, sR_2_6, sR_2_7, sR_2_8, sR_2_9, sR_2_10, sR_2_11, sR_2_12, sT_15, sT_16, sT_17, sT_18, sT_19, sT_20, sT_21, sT_22, sT_23, sR_15_1, sR_15_2, sR_15_3, sR_15_4, sR_15_5, sR_15_6, sR_15_7, sR_15_8, sT_24, sT_25, sT_26, sT_27, sT_28, sT_29, sR_24_1, sR_24_2, sR_24_3, sR_24_4, sR_24_5, sT_71, sT_72, sR_71_0, sR_71_1, sR_71_2, sR_71_3, sR_71_4, sT_73, sT_74, sT_75, sR_73_0, sR_73_1, sR_73_2, sR_73_3, sR_73_4, sR_73_5, sT_84, sT_85, sT_86, sT_87, sR_84_0, sR_84_1, sR_84_2, sR_84_3, sR_84_4, sR_84_5, sT_88, sT_89, sR_88_0, sT_90, sT_91, sR_90_0, c11', hi1, nI_0, e4, h10, e5, e6]
  · rintro st ⟨h3, rfl, f3, g3, hall⟩
    have o3 := OT_fr o2 f3 fun a j q => by have := Wgl_71 q; omega
    have hs3 := o3.1.1.1
    have c11' : hI h3 11 p = nI (nP A p) := (o3.1.1.2.2.1.2.2.2 p (by omega)).1
    refine ⟨(.inl 0, ([.ref 1, .int (nI p), .int (nI rr), .int (nI (nP A p + 1)), .null], h3)), ?_, h3, _, Or.inl ⟨rfl, f3, fst1_no hall⟩⟩
    clear d d1 d2 o1 o2 o3 ro1 ro2 f1 f2 f12 f3 fin2 cr2 hz hso hsq g0 g3 u0 mk r0 hall
    have hno : ¬ nP A p + 1 ≤ nP A p := by omega
    simp (disch := first | assumption | omega) [lstp, lc_S_gain_1, lb_S_gain_1, lu_S_gain_1, j_meth, j_out, j_rok, j_pad, lg_sl, s_seq_w, isN_inl, isN_inr, s_if, jb, x_c, x_iloc, x_aloc, x_lloc, x_bin, x_un, o_add, o_sub, o_mul, o_and, o_or, o_xor, o_shl, o_shr, o_ushr, o_max, o_min, o_i2b, o_i2c, o_i2l, o_l2i, x_fld, j_fget, x_idx, j_aget, x_len, j_alen, x_ofb, x_ite, xs_nil, xs_cons, x_callv, x_calls, s_callv, s_calls, j_recv, j_ret, j_retv, b_cmp, b_and, b_or, b_not, b_ofi, b_ite, b_true, s_skip, s_set, j_ty, j_lset, j_kill, s_inc, s_fput, j_fput, s_fop, s_aput, j_aput, j_nar, s_aop, s_ret, s_retv, s_go, s_pop, x_linc, x_finc, Value.category, if_icmp.holds, List.flatMap_cons, List.flatMap_nil, List.length_cons, List.length_append, List.length_nil, List.set_cons_succ, List.set_cons_zero, List.getElem?_cons_succ, List.getElem?_cons_zero, List.replicate, ite_and', ite_or', ite_int', nI_leI, nI_ltI, nI_eq, nI_add, nI_1, pk_mul, nI_clamp, n_in', nI_pos', nI_pos, n_m1e, n_01, n_10, sT_1, sR_1_0, sR_1_1, sR_1_2, sR_1_3, sR_1_4, sR_1_5, sR_1_6, sR_1_7, sR_1_8, sR_1_9, sT_2, sT_3, sT_4, sT_5, sT_6, sT_7, sT_8, sT_9, sT_10, sT_11, sT_12, sT_13, sT_14, sR_2_1, sR_2_2, sR_2_3, sR_2_4, sR_2_5, sR_2_6, sR_2_7, sR_2_8, sR_2_9, sR_2_10, sR_2_11, sR_2_12, sT_15, sT_16, sT_17, sT_18, sT_19, sT_20, sT_21, sT_22, sT_23, sR_15_1, sR_15_2, sR_15_3, sR_15_4, sR_15_5, sR_15_6, sR_15_7, sR_15_8, sT_24, sT_25, sT_26, sT_27, sT_28, sT_29, sR_24_1, sR_24_2, sR_24_3, sR_24_4, sR_24_5, sT_71, sT_72, sR_71_0, sR_71_1, sR_71_2, sR_71_3, sR_71_4, sT_73, sT_74, sT_75, sR_73_0, sR_73_1, sR_73_2, sR_73_3, sR_73_4, sR_73_5, sT_84, sT_85, sT_86, sT_87, sR_84_0, sR_84_1, sR_84_2, sR_84_3, sR_84_4, sR_84_5, sT_88, sT_89, sR_88_0, sT_90, sT_91, sR_90_0, c11', hno]
