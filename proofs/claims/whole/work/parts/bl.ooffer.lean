/-! offer, gone -/
theorem ini_lL (A : AS) : oIni A none none none = (0, 0, 0, 0, lL A) := by
  unfold oIni
  have : (fun p => oRem A none none none p 0) = lL A := funext fun p => (lL_rem A p).symm
  rw [this]
theorem DK_ok {A : AS} {ca bl : Nat → Nat} {W : Nat → Nat → Prop} {h h' : jHp} (d : DK A ca bl h) (f : Fr W h h') (hW : ∀ a j, W a j → 71 ≤ a ∧ a ≤ 91) : DK A ca bl h' := DK_fr d f (fun a j q => by
    have := hW a j q
    unfold cC isCA
    rintro (z | ⟨c, q1, q2, q3⟩ | z) <;> omega) fun a j k hk q z => by
  have := Wdk_lt hk z
  have := hW a j q
  omega
theorem o_S_offer {A : AS} {tx : List Nat} {rw : List Int32} {h : jHp} (r : RC A tx rw h) : ∃ h', f_S_offer [.ref 1] h = some (some (.int (vOffer A rw).1), h') ∧ RC A tx (vOffer A rw).2 h' ∧ FC h h' := by
  have r0 := r
  obtain ⟨mk, ⟨ca, bl, d, sp⟩, c11, ct, cr, cs⟩ := r
  have hs := mk.1.1
  have w := mk.1.2.1
  obtain ⟨h1, bl1, e1, f1, o1, d1, ro1⟩ := e_O_load mk d
  have hs1 := o1.1.1.1
  obtain ⟨h2, s, hsq, e2, f2, b6, b7, b8, hl, -⟩ := e_O_run o1 (lL_ok w) ro1
  have hs2 := Fr_shape hs1 f2
  have mk2 : MK A h2 := (OT_fr o1 f2 fun a j q => by unfold W847 at q; omega).1
  have d2 : DK A ca bl1 h2 := DK_ok d1 f2 fun a j q => by unfold W847 at q; omega
  have hso : sOut A none none none = s := by unfold sOut; rw [ini_lL, hsq]
  have f12 : Fr okW h h2 := Fr_trans (Fr_mono f1 fun a j q => Wld_ok q) (Fr_mono f2 fun a j q => W847_ok q)
  have cr2 : CRw rw h2 := CRw_fr (W := fun a j => Wld a j ∨ W847 a j) cr (Fr_trans (Fr_mono f1 fun a j q => Or.inl q) (Fr_mono f2 fun a j q => Or.inr q)) fun a j q => by
    rcases q with (q | q) | q
    · have := Wds_lt q; omega
    · unfold W856 at q; omega
    · unfold W847 at q; omega
  have hz : sOuV A none none none = if popN 32 (sPpl A s.2.1) = popN 32 s.2.1 then some s.2.1 else none := by unfold sOuV; rw [hso]
  unfold vOffer
  rw [hz, hso]
  have fin2 := RC_mk r0 d sp f12 (fun a j q => q) d2 cr2
  by_cases q : popN 32 (sPpl A s.2.1) = popN 32 s.2.1
  · rw [if_pos q] at e2
    rw [if_pos q]
    obtain ⟨h3, e3, f3, c3⟩ := e_S_tellTwo hs2 (nI s.2.2.1) (nI s.2.2.2.1)
    have hs3 := Fr_shape hs2 f3
    have mk3 := MK_fr mk2 f3 fun a j q => okW_cC (W90_ok q)
    have es := e_B_setOf hs3 w mk3.1.2.2.1 (slM_lt w s.2.1)
    rw [stM_slM w hl] at es
    have b83 : hI h3 84 8 = nI (slM A s.2.1) := by rw [Fr_I f3 (by unfold W90; omega)]; exact b8
    have fin3 := RC_mk fin2.1 d2 ⟨by rw [f12.1.2.1]; exact sp.1, sp.2⟩ f3 (fun a j q => W90_ok q) (DK_90 d2 f3) c3
    refine ⟨h3, ?_, fin3.1, FC_trans fin2.2 fin3.2⟩
    clear d d1 d2 o1 mk mk2 mk3 ro1 f1 f2 f12 f3 fin2 fin3 cr cr2 hz hso hsq r0
    have h10 : ((1 : Int32) = 0) = False := by decide
    generalize slM A s.2.1 = H at *
    simp (disch := first | assumption | omega) [f_S_offer, body_S_offer, j_meth, j_out, j_rok, j_pad, lg_sl, s_seq_w, isN_inl, isN_inr, s_if, jb, x_c, x_iloc, x_aloc, x_lloc, x_bin, x_un, o_add, o_sub, o_mul, o_and, o_or, o_xor, o_shl, o_shr, o_ushr, o_max, o_min, o_i2b, o_i2c, o_i2l, o_l2i, x_fld, j_fget, x_idx, j_aget, x_len, j_alen, x_ofb, x_ite, xs_nil, xs_cons, x_callv, x_calls, s_callv, s_calls, j_recv, j_ret, j_retv, b_cmp, b_and, b_or, b_not, b_ofi, b_ite, b_true, s_skip, s_set, j_ty, j_lset, j_kill, s_inc, s_fput, j_fput, s_fop, s_aput, j_aput, j_nar, s_aop, s_ret, s_retv, s_go, s_pop, x_linc, x_finc, Value.category, if_icmp.holds, List.flatMap_cons, List.flatMap_nil, List.length_cons, List.length_append, List.length_nil, List.set_cons_succ, List.set_cons_zero, List.getElem?_cons_succ, List.getElem?_cons_zero, List.replicate, ite_and', ite_or', ite_int', nI_leI, nI_ltI, nI_eq, nI_add, nI_1, pk_mul, nI_clamp, n_in', nI_pos', nI_pos, n_m1e, n_01, n_10, sT_1, sR_1_0, sR_1_1, sR_1_2, sR_1_3, sR_1_4, sR_1_5, sR_1_6, sR_1_7, sR_1_8, sR_1_9, sT_2, sT_3, sT_4, sT_5, sT_6, sT_7, sT_8, sT_9, sT_10, sT_11, sT_12, sT_13, sT_14, sR_2_1, sR_2_2, sR_2_3, sR_2_4, sR_2_5, sR_2_6, sR_2_7, sR_2_8, sR_2_9, sR_2_10, sR_2_11, sR_2_12, sT_15, sT_16, sT_17, sT_18, sT_19, sT_20, sT_21, sT_22, sT_23, sR_15_1, sR_15_2, sR_15_3, sR_15_4, sR_15_5, sR_15_6, sR_15_7, sR_15_8, sT_24, sT_25, sT_26, sT_27, sT_28, sT_29, sR_24_1, sR_24_2, sR_24_3, sR_24_4, sR_24_5, sT_71, sT_72, sR_71_0, sR_71_1, sR_71_2, sR_71_3, sR_71_4, sT_73, sT_74, sT_75, sR_73_0, sR_73_1, sR_73_2, sR_73_3, sR_73_4, sR_73_5, sT_84, sT_85, sT_86, sT_87, sR_84_0, sR_84_1, sR_84_2, sR_84_3, sR_84_4, sR_84_5, sT_88, sT_89, sR_88_0, sT_90, sT_91, sR_90_0, e1, e2, h10, b6, b7, e3, b83, es]
  · rw [if_neg q] at e2
    rw [if_neg q]
    refine ⟨h2, ?_, fin2⟩
    simp (disch := first | assumption | omega) [f_S_offer, body_S_offer, j_meth, j_out, j_rok, j_pad, lg_sl, s_seq_w, isN_inl, isN_inr, s_if, jb, x_c, x_iloc, x_aloc, x_lloc, x_bin, x_un, o_add, o_sub, o_mul, o_and, o_or, o_xor, o_shl, o_shr, o_ushr, o_max, o_min, o_i2b, o_i2c, o_i2l, o_l2i, x_fld, j_fget, x_idx, j_aget, x_len, j_alen, x_ofb, x_ite, xs_nil, xs_cons, x_callv, x_calls, s_callv, s_calls, j_recv, j_ret, j_retv, b_cmp, b_and, b_or, b_not, b_ofi, b_ite, b_true, s_skip, s_set, j_ty, j_lset, j_kill, s_inc, s_fput, j_fput, s_fop, s_aput, j_aput, j_nar, s_aop, s_ret, s_retv, s_go, s_pop, x_linc, x_finc, Value.category, if_icmp.holds, List.flatMap_cons, List.flatMap_nil, List.length_cons, List.length_append, List.length_nil, List.set_cons_succ, List.set_cons_zero, List.getElem?_cons_succ, List.getElem?_cons_zero, List.replicate, ite_and', ite_or', ite_int', nI_leI, nI_ltI, nI_eq, nI_add, nI_1, pk_mul, nI_clamp, n_in', nI_pos', nI_pos, n_m1e, n_01, n_10, sT_1, sR_1_0, sR_1_1, sR_1_2, sR_1_3, sR_1_4, sR_1_5, sR_1_6, sR_1_7, sR_1_8, sR_1_9, sT_2, sT_3, sT_4, sT_5, sT_6, sT_7, sT_8, sT_9, sT_10, sT_11, sT_12, sT_13, sT_14, sR_2_1, sR_2_2, sR_2_3, sR_2_4, sR_2_5, sR_2_6, sR_2_7, sR_2_8, sR_2_9, sR_2_10, sR_2_11, sR_2_12, sT_15, sT_16, sT_17, sT_18, sT_19, sT_20, sT_21, sT_22, sT_23, sR_15_1, sR_15_2, sR_15_3, sR_15_4, sR_15_5, sR_15_6, sR_15_7, sR_15_8, sT_24, sT_25, sT_26, sT_27, sT_28, sT_29, sR_24_1, sR_24_2, sR_24_3, sR_24_4, sR_24_5, sT_71, sT_72, sR_71_0, sR_71_1, sR_71_2, sR_71_3, sR_71_4, sT_73, sT_74, sT_75, sR_73_0, sR_73_1, sR_73_2, sR_73_3, sR_73_4, sR_73_5, sT_84, sT_85, sT_86, sT_87, sR_84_0, sR_84_1, sR_84_2, sR_84_3, sR_84_4, sR_84_5, sT_88, sT_89, sR_88_0, sT_90, sT_91, sR_90_0, e1, e2]
theorem oM_inj {x y : Option Nat} : oM x = oM y ↔ x = y := by
  constructor
  · intro e
    have hb : ∀ j, x = some j ↔ y = some j := fun j => by rw [← oM_bit, ← oM_bit, e]
    cases x with
    | none =>
      cases y with
      | none => rfl
      | some j => exact (hb j).mpr rfl
    | some j => exact ((hb j).mp rfl).symm
  · rintro rfl; rfl
theorem sl_xor {A : AS} (w : WF A) (S T : Nat) : slM A S ^^^ slM A T = slM A (S ^^^ T) := by
  apply Nat.eq_of_testBit_eq
  intro j
  rw [Nat.testBit_xor]
  by_cases hj : ∃ b, b < aNb A ∧ sSlot A b = j
  · obtain ⟨b, b1, b2⟩ := hj
    rw [← b2, slM_b w S b1, slM_b w T b1, slM_b w (S ^^^ T) b1, Nat.testBit_xor]
  · have z : ∀ X, (slM A X).testBit j = false := fun X => by
      cases q : (slM A X).testBit j with
      | false => rfl
      | true =>
        unfold slM at q
        obtain ⟨b, b1, -, b3⟩ := (slM_bit A _ _ _).mp q
        exact absurd ⟨b, b1, b3⟩ hj
    rw [z, z, z]
    rfl
theorem mov_ok {A : AS} (w : WF A) {S T : Nat} (hS : S < 2 ^ aNb A) (hT : T < 2 ^ aNb A) (mS : sMat A S) (mT : sMat A T) (p : Nat) : ((slM A S ^^^ slM A T) &&& slP A p = 0) = (sBnd A S p = sBnd A T p) := by
  have hlt : (S ^^^ T) &&& setP A p < 2 ^ aNb A := Nat.lt_of_le_of_lt Nat.and_le_right (setP_lt A p)
  rw [sl_xor w, sl_and w, propext (slM_z w hlt), ← propext oM_inj, ← mine_ok mS, ← mine_ok mT]
  apply propext
  constructor
  · intro h
    apply Nat.eq_of_testBit_eq
    intro b
    have : ((S ^^^ T) &&& setP A p).testBit b = false := by rw [h]; simp
    rw [Nat.testBit_and, Nat.testBit_xor] at this
    rw [Nat.testBit_and, Nat.testBit_and]
    cases hs : S.testBit b <;> cases ht : T.testBit b <;> cases hp : (setP A p).testBit b <;> simp_all
  · intro h
    apply Nat.eq_of_testBit_eq
    intro b
    have : (S &&& setP A p).testBit b = (T &&& setP A p).testBit b := by rw [h]
    rw [Nat.testBit_and, Nat.testBit_and] at this
    rw [Nat.testBit_and, Nat.testBit_xor, Nat.zero_testBit]
    cases hs : S.testBit b <;> cases ht : T.testBit b <;> cases hp : (setP A p).testBit b <;> simp_all
theorem rem_si (A : AS) (q p : Nat) : oRem A none (some q) none p 0 = if p = q then [] else lL A p := by
  rw [lL_rem]
  unfold oRem oOff
  by_cases e : p = q
  · subst e
    have : ((some p == some p) || (sCpl A p).isSome) = true := by simp
    rw [if_pos this, if_pos rfl]
  · have : (some q == some p) = false := by
      rw [beq_eq_false_iff_ne]
      intro z
      exact e (Option.some.inj z).symm
    rw [this, if_neg e]
    rfl
theorem rem_mi (A : AS) (b p : Nat) : oRem A none none (some b) p 0 = (lL A p).filter (fun c => c != b) := by
  unfold oRem lL oOff oRaw
  cases h : sCpl A p with
  | none =>
    have : ((none : Option Nat) == some p || (none : Option Nat).isSome) = false := rfl
    simp only [Option.isNone_none, if_true, this, Bool.false_eq_true, if_false, List.drop_zero]
    congr 1
  | some c =>
    have : ((none : Option Nat) == some p || (some c).isSome) = true := rfl
    simp only [Option.isNone_some, Bool.false_eq_true, if_false, this, if_true, List.filter_nil]
theorem e_O_silence {A : AS} {L : Nat → List Nat} {h : jHp} (hs : Shape h) (ro : RO A L h) {q : Nat} (hq : q < 7) : ∃ h', f_O_silence [.ref 84, .int (nI q)] h = some (none, h') ∧ Fr W856 h h' ∧ RO A (fun p => if p = q then [] else L p) h' := by
  refine ⟨hSetI h 86 q (nI 0), ?_, Fr_set _ (Or.inr rfl), fun p hp => ?_⟩
  · simp (disch := first | assumption | omega) [f_O_silence, body_O_silence, j_meth, j_out, j_rok, j_pad, lg_sl, s_seq_w, isN_inl, isN_inr, s_if, jb, x_c, x_iloc, x_aloc, x_lloc, x_bin, x_un, o_add, o_sub, o_mul, o_and, o_or, o_xor, o_shl, o_shr, o_ushr, o_max, o_min, o_i2b, o_i2c, o_i2l, o_l2i, x_fld, j_fget, x_idx, j_aget, x_len, j_alen, x_ofb, x_ite, xs_nil, xs_cons, x_callv, x_calls, s_callv, s_calls, j_recv, j_ret, j_retv, b_cmp, b_and, b_or, b_not, b_ofi, b_ite, b_true, s_skip, s_set, j_ty, j_lset, j_kill, s_inc, s_fput, j_fput, s_fop, s_aput, j_aput, j_nar, s_aop, s_ret, s_retv, s_go, s_pop, x_linc, x_finc, Value.category, if_icmp.holds, List.flatMap_cons, List.flatMap_nil, List.length_cons, List.length_append, List.length_nil, List.set_cons_succ, List.set_cons_zero, List.getElem?_cons_succ, List.getElem?_cons_zero, List.replicate, ite_and', ite_or', ite_int', nI_leI, nI_ltI, nI_eq, nI_add, nI_1, pk_mul, nI_clamp, n_in', nI_pos', nI_pos, n_m1e, n_01, n_10, sT_1, sR_1_0, sR_1_1, sR_1_2, sR_1_3, sR_1_4, sR_1_5, sR_1_6, sR_1_7, sR_1_8, sR_1_9, sT_2, sT_3, sT_4, sT_5, sT_6, sT_7, sT_8, sT_9, sT_10, sT_11, sT_12, sT_13, sT_14, sR_2_1, sR_2_2, sR_2_3, sR_2_4, sR_2_5, sR_2_6, sR_2_7, sR_2_8, sR_2_9, sR_2_10, sR_2_11, sR_2_12, sT_15, sT_16, sT_17, sT_18, sT_19, sT_20, sT_21, sT_22, sT_23, sR_15_1, sR_15_2, sR_15_3, sR_15_4, sR_15_5, sR_15_6, sR_15_7, sR_15_8, sT_24, sT_25, sT_26, sT_27, sT_28, sT_29, sR_24_1, sR_24_2, sR_24_3, sR_24_4, sR_24_5, sT_71, sT_72, sR_71_0, sR_71_1, sR_71_2, sR_71_3, sR_71_4, sT_73, sT_74, sT_75, sR_73_0, sR_73_1, sR_73_2, sR_73_3, sR_73_4, sR_73_5, sT_84, sT_85, sT_86, sT_87, sR_84_0, sR_84_1, sR_84_2, sR_84_3, sR_84_4, sR_84_5, sT_88, sT_89, sR_88_0, sT_90, sT_91, sR_90_0]
  · by_cases e : p = q
    · subst e
      simp only [if_true]
      exact ⟨by rw [hI_setI, if_pos ⟨rfl, rfl⟩]; rfl, fun k hk => by simp at hk⟩
    · simp only [if_neg e]
      exact ⟨by rw [hI_setI, if_neg (fun z => e z.2)]; exact (ro p hp).1, fun k hk => by rw [hI_setI, if_neg (by omega)]; exact (ro p hp).2 k hk⟩
