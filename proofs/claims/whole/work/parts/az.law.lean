/-! law -/
theorem fst_map {p q : Nat → Bool} {g : Nat → Nat} {N M : Nat} (hg : ∀ i j, i < j → j < N → g i < g j) (hM : ∀ i, i < N → g i < M) (hpq : ∀ i, i < N → p i = q (g i)) (hs : ∀ z, z < M → q z = true → ∃ i, i < N ∧ g i = z) : fst1 q M = (fst1 p N).map g := by
  cases hf : fst1 p N with
  | none =>
    have h0 := fst1_none hf
    refine fst1_no fun z hz => ?_
    cases hq : q z with
    | false => rfl
    | true =>
      obtain ⟨i, i1, i2⟩ := hs z hz hq
      have := h0 i i1
      rw [hpq i i1, i2, hq] at this
      cases this
  | some P =>
    obtain ⟨h1, h2, h3⟩ := fst1_some hf
    rw [hpq P h1] at h2
    refine fst1_of (hM P h1) h2 fun z hz => ?_
    cases hq : q z with
    | false => rfl
    | true =>
      obtain ⟨i, i1, i2⟩ := hs z (by have := hM P h1; omega) hq
      have hiP : i < P := by
        cases Nat.lt_or_ge i P with
        | inl q => exact q
        | inr q =>
          by_cases e : i = P
          · subst e; omega
          · have := hg P i (by omega) i1; omega
      have := h3 i hiP
      rw [hpq i i1, i2, hq] at this
      cases this
theorem pS_1 {A : AS} (w : WF A) {f i : Nat} (hi : i < nOf A f) : pSet A f (2 ^ i) = 2 ^ bAt A f i := by
  have h2 : 2 ^ i < 2 ^ nOf A f := Nat.pow_lt_pow_right (by decide) hi
  apply Nat.eq_of_testBit_eq
  intro b
  rw [Bool.eq_iff_iff, Nat.testBit_two_pow, decide_eq_true_iff]
  constructor
  · intro h
    obtain ⟨b1, b2⟩ := pS_of w h2 b h
    have hix := (sIdx_lt w b1).1
    have hbt := bAt_idx w b1
    rw [b2] at hix hbt
    rw [← hbt, pS_bit w h2 hix, Nat.testBit_two_pow, decide_eq_true_iff] at h
    rw [h]; exact hbt
  · intro h
    rw [← h, pS_bit w h2 hi, Nat.testBit_two_pow]
    simp
/-- what comes back: of a part, and of a set -/
def lwR (A : AS) (f P i : Nat) : Nat := (P &&& (tP A f 0 P ^^^ 4294967295)) &&& tP A f 0 (P ||| 2 ^ i)
def lwQ (A : AS) (f : Nat) (u : Bool) (P i : Nat) : Bool := !P.testBit i && if u then lwR A f P i != 0 else decide (popN 32 (tP A f 0 (P ||| 2 ^ i)) < popN 32 (tP A f 0 P))
theorem pS_tk0 {A : AS} (w : WF A) {f P : Nat} (hP : P < 2 ^ nOf A f) : pSet A f (tP A f 0 P) = sTk A f (pSet A f P) := by
  rw [(tP_spec w (l := 0) hP).2.2.2.2, aLv_0]
theorem lwR_lt {A : AS} {f P i : Nat} (hP : P < 2 ^ nOf A f) : lwR A f P i < 2 ^ nOf A f := by
  unfold lwR
  exact Nat.lt_of_le_of_lt Nat.and_le_left (Nat.lt_of_le_of_lt Nat.and_le_left hP)
theorem lwR_ok {A : AS} (w : WF A) {f P i : Nat} (hP : P < 2 ^ nOf A f) (hi : i < nOf A f) : pSet A f (lwR A f P i) = sLwB (pSet A f P) (sTk A f (pSet A f P)) (sTk A f (pSet A f P ||| 2 ^ bAt A f i)) := by
  have h20 := w.2.2.1.1
  have hPi : P ||| 2 ^ i < 2 ^ nOf A f := or_bit_lt hP hi
  have h2 : 2 ^ i < 2 ^ nOf A f := Nat.pow_lt_pow_right (by decide) hi
  have t1 := (tP_spec w (l := 0) hP).1
  have t2 := (tP_spec w (l := 0) hPi).1
  have e1 := pS_tk0 w hP
  have e2 := pS_tk0 w hPi
  rw [pS_or w hP h2, pS_1 w hi] at e2
  rw [← e1, ← e2]
  have hR := lwR_lt (A := A) (f := f) (P := P) (i := i) hP
  have h8 := nOf_le w f
  unfold sLwB
  apply Nat.eq_of_testBit_eq
  intro b
  rw [Nat.testBit_and, Nat.testBit_and]
  by_cases hb : b < aNb A ∧ aOf A b = f
  · obtain ⟨hb1, hb2⟩ := hb
    have hix := (sIdx_lt w hb1).1
    have hbt := bAt_idx w hb1
    rw [hb2] at hix hbt
    have hix8 := (sIdx_lt w hb1).2
    have q := fun Q (hQ : Q < 2 ^ nOf A f) => pS_bit w hQ hix
    rw [hbt] at q
    rw [q _ hR, xor_all (by omega), q _ hP, q _ t1, q _ t2]
    unfold lwR
    rw [Nat.testBit_and, Nat.testBit_and, xor_all (by omega)]
  · have z : ∀ Q, Q < 2 ^ nOf A f → (pSet A f Q).testBit b = false := fun Q hQ => by
      cases y : (pSet A f Q).testBit b with
      | false => rfl
      | true => exact absurd (pS_of w hQ b y) hb
    rw [z _ hR, z _ hP]
    rfl
theorem lwQ_ok {A : AS} (w : WF A) {f P i : Nat} (u : Bool) (hP : P < 2 ^ nOf A f) (hi : i < nOf A f) : lwQ A f u P i = sLwP A f u (pSet A f P) (bAt A f i) := by
  have hPi : P ||| 2 ^ i < 2 ^ nOf A f := or_bit_lt hP hi
  have h2 : 2 ^ i < 2 ^ nOf A f := Nat.pow_lt_pow_right (by decide) hi
  have t1 := (tP_spec w (l := 0) hP).1
  have t2 := (tP_spec w (l := 0) hPi).1
  have e1 := pS_tk0 w hP
  have e2 := pS_tk0 w hPi
  rw [pS_or w hP h2, pS_1 w hi] at e2
  obtain ⟨b1, b2, -⟩ := bAt_ok w hi
  have hof : (sOff A f).testBit (bAt A f i) = true := by
    unfold sOff
    rw [sOff_bit]
    simp [b1, b2]
  unfold lwQ sLwP
  rw [hof, pS_bit w hP hi, ← lwR_ok w hP hi, ← e1, ← e2, pop_pS w t1, pop_pS w t2]
  have hz : (lwR A f P i != 0) = (pSet A f (lwR A f P i) != 0) := by
    rw [Bool.eq_iff_iff, bne_iff_ne, bne_iff_ne, Ne, Ne, pSet_0 w (lwR_lt hP)]
  rw [hz]
  rfl
theorem lwS_ok {A : AS} (w : WF A) {f P : Nat} (u : Bool) (hP : P < 2 ^ nOf A f) : sLwS A f u (pSet A f P) = (fst1 (lwQ A f u P) (nOf A f)).map (bAt A f) := by
  unfold sLwS
  refine fst_map (fun i j h1 h2 => bAt_mono w h2 h1) (fun i hi => (bAt_ok w hi).1) (fun i hi => lwQ_ok w u hP hi) fun z hz hq => ?_
  unfold sLwP at hq
  rw [Bool.and_eq_true, Bool.and_eq_true] at hq
  have := hq.1.1
  unfold sOff at this
  rw [sOff_bit] at this
  simp only [Bool.and_eq_true, decide_eq_true_eq] at this
  have hix := (sIdx_lt w hz).1
  have hbt := bAt_idx w hz
  rw [this.2] at hix hbt
  exact ⟨_, hix, hbt⟩
theorem sOff_all {A : AS} (w : WF A) (f : Nat) : pSet A f (2 ^ nOf A f - 1) = sOff A f := by
  have hp := Nat.two_pow_pos (nOf A f)
  have hl : 2 ^ nOf A f - 1 < 2 ^ nOf A f := by omega
  apply Nat.eq_of_testBit_eq
  intro b
  rw [Bool.eq_iff_iff]
  unfold sOff
  rw [sOff_bit]
  simp only [Bool.and_eq_true, decide_eq_true_eq]
  constructor
  · intro h; exact pS_of w hl b h
  · rintro ⟨h1, h2⟩
    have hix := (sIdx_lt w h1).1
    have hbt := bAt_idx w h1
    rw [h2] at hix hbt
    have hix' : sIdx A b < nOf A f := hix
    rw [← hbt, pS_bit w hl hix, Nat.testBit_two_pow_sub_one]
    exact decide_eq_true hix'
theorem lwF_ok {A : AS} (w : WF A) (f : Nat) (u : Bool) : fst1 (fun S => S &&& sOff A f == S && (sLwS A f u S).isSome) (sOff A f + 1) = (fst1 (fun P => (fst1 (lwQ A f u P) (nOf A f)).isSome) (2 ^ nOf A f)).map (pSet A f) := by
  have hp := Nat.two_pow_pos (nOf A f)
  have hall := sOff_all w f
  refine fst_map (fun i j h1 h2 => pS_mono w h2 h1) (fun P hP => ?_) (fun P hP => ?_) fun z hz hq => ?_
  · rw [← hall]
    by_cases e : P = 2 ^ nOf A f - 1
    · rw [e]; omega
    · have := pS_mono w (f := f) (Q := 2 ^ nOf A f - 1) (by omega) (show P < 2 ^ nOf A f - 1 by omega)
      omega
  · have hs : (pSet A f P &&& sOff A f == pSet A f P) = true := by
      rw [beq_iff_eq, SubB_and, ← hall, SubB_pS w (by omega) hP]
      intro j hj
      rw [Nat.testBit_two_pow_sub_one]
      simpa using bits_lt hP hj
    rw [lwS_ok w u hP, hs]
    cases fst1 (lwQ A f u P) (nOf A f) <;> rfl
  · rw [Bool.and_eq_true, beq_iff_eq, SubB_and] at hq
    have hof : OfS A f z := fun b hb => by
      have := hq.1 b hb
      unfold sOff at this
      rw [sOff_bit] at this
      simpa using this
    exact ⟨_, prt_slM_lt w f z, pS_back w hof⟩
theorem low_pS {A : AS} (w : WF A) {f R : Nat} (hR : R < 2 ^ nOf A f) (h0 : R ≠ 0) : lowN R < nOf A f ∧ lowN (pSet A f R) = bAt A f (lowN R) := by
  have h8 := nOf_le w f
  have h20 := w.2.2.1.1
  have hp8 : 2 ^ nOf A f ≤ 256 := Nat.pow_le_pow_right (n := 2) (by decide) h8
  obtain ⟨l1, l2, l3⟩ := lowN_ok (x := R) (by omega) h0
  have hlo := bits_lt hR l2
  refine ⟨hlo, ?_⟩
  have hb := (bAt_ok w hlo).1
  have : fst1 (fun i => (pSet A f R).testBit i) 32 = some (bAt A f (lowN R)) := by
    refine fst1_of (by omega) (by rw [pS_bit w hR hlo]; exact l2) fun m hm => ?_
    cases q : (pSet A f R).testBit m with
    | false => rfl
    | true =>
      obtain ⟨b1, b2⟩ := pS_of w hR m q
      have hix := (sIdx_lt w b1).1
      have hbt := bAt_idx w b1
      rw [b2] at hix hbt
      rw [← hbt, pS_bit w hR hix] at q
      cases Nat.lt_or_ge (sIdx A m) (lowN R) with
      | inl z => rw [l3 _ z] at q; cases q
      | inr z =>
        by_cases e : sIdx A m = lowN R
        · rw [e] at hbt; omega
        · have := bAt_mono w hix (show lowN R < sIdx A m by omega)
          omega
  unfold lowN at this ⊢
  rw [this]
  rfl
def Wlw (f a j : Nat) : Prop := Wdk f a j ∨ W90 a j
theorem Wlw_ok {f a j : Nat} (hf : f < 4) (h : Wlw f a j) : okW a j := by
  rcases h with q | q
  · exact okW_dk hf q
  · exact W90_ok q
/-- the ROW that a breach tells -/
def lwW (A : AS) (f : Nat) (u : Bool) (P i : Nat) : List Int32 := if u then [nI (pSet A f P), nI (bAt A f i), nI (bAt A f (lowN (lwR A f P i)))] else [nI (pSet A f P), nI (bAt A f i)]
theorem e_S_isBreach {A : AS} {rw : List Int32} {ca bl : Nat → Nat} {h : jHp} (mk : MK A h) (d : DK A ca bl h) (cr : CRw rw h) {f P i : Nat} (u : Bool) {x : Int32} (hx : (x = 0) = (u = true)) (hf : f < 4) (hP : P < 2 ^ nOf A f) (hi : i < nOf A f) (hPi : P.testBit i = false) : ∃ h' bl', f_S_isBreach [.ref 1, .int (nI f), .int x, .int (nI P), .int (nI i)] h = some (some (.int (if lwQ A f u P i then 1 else 0)), h') ∧ Fr (Wlw f) h h' ∧ DK A ca bl' h' ∧ CRw (if lwQ A f u P i then lwW A f u P i else rw) h' := by
  have hs := mk.1.1
  have w := mk.1.2.1
  have h20 := w.2.2.1.1
  have h8 := nOf_le w f
  have hp8 : 2 ^ nOf A f ≤ 256 := Nat.pow_le_pow_right (n := 2) (by decide) h8
  obtain ⟨h1, e1, f1, t1⟩ := e_D_takes mk.1 hf (d f hf).1 (d f hf).2 hP
  have mk1 := MK_fr mk f1 fun a j q => Wdk_cC hf q
  have d1 := DK_1 hf d f1 t1
  have hPi2 : P ||| 2 ^ i < 2 ^ nOf A f := or_bit_lt hP hi
  obtain ⟨h2, e2, f2, t2⟩ := e_D_takes mk1.1 hf (d1 f hf).1 (d1 f hf).2 hPi2
  have mk2 := MK_fr mk1 f2 fun a j q => Wdk_cC hf q
  have d2 := DK_1 hf d1 f2 t2
  have f12 := Fr_trans f1 f2
  have hs1 := mk1.1.1
  have hs2 := mk2.1.1
  have cr2 : CRw rw h2 := CRw_fr cr f12 fun a j q => by have := Wdk_lt hf q; omega
  have hsh := n_shl 1 (k := i) (by omega)
  rw [Nat.one_mul] at hsh
  have hor : nI P ||| nI (2 ^ i) = nI (P ||| 2 ^ i) := n_or _ _
  have tl1 := tP_256 A f 0 P
  have tl2 := tP_256 A f 0 (P ||| 2 ^ i)
  have hR : (nI P &&& ~~~ nI (tP A f 0 P)) &&& nI (tP A f 0 (P ||| 2 ^ i)) = nI (lwR A f P i) := by
    rw [n_not, n_and, n_and]; rfl
  have hRl := lwR_lt (A := A) (f := f) (P := P) (i := i) hP
  have hR0 : (nI (lwR A f P i) = 0) = (lwR A f P i = 0) := propext (n_eq0 (by omega))
  have eb1 := e_J_bitCount h2 (x := tP A f 0 P) (by omega)
  have eb2 := e_J_bitCount h2 (x := tP A f 0 (P ||| 2 ^ i)) (by omega)
  have pl1 := popN_le 32 (tP A f 0 P)
  have pl2 := popN_le 32 (tP A f 0 (P ||| 2 ^ i))
  have esp := e_B_setOfPart mk2.1 (f := f) (P := P) hf (by omega)
  have c9 := CB_at w mk2.1.2.2.1 hi
  obtain ⟨u1, -, -, -, -, -, -, -, -, r30⟩ := DSh_of hs hf
  obtain ⟨v1, -, -, -, -, -, -, -, -, s30⟩ := DSh_of hs1 hf
  have t30 := sT_30 hs
  have t30' := sT_30 hs1
  have n0 : dA f ≠ 0 := by unfold dA; omega
  have h10 : ((1 : Int32) = 0) = False := by decide
  have h10' : (nI 1 = 0) = False := by decide
  have h00 : (nI 0 = 0) = True := by decide
  have e8 : f * 8 + i = 8 * f + i := by omega
  have hlw : lwQ A f u P i = if u then lwR A f P i != 0 else decide (popN 32 (tP A f 0 (P ||| 2 ^ i)) < popN 32 (tP A f 0 P)) := by
    unfold lwQ; rw [hPi]; rfl
  by_cases hq : lwQ A f u P i = true
  · rw [hq]
    simp only [if_true]
    obtain ⟨h3, e3, f3, c3⟩ := e_R_empty hs2
    have hs3 := Fr_shape hs2 f3
    have mk3 := MK_fr mk2 f3 fun a j q => okW_cC (W90_ok q)
    have esp3 := e_B_setOfPart mk3.1 (f := f) (P := P) hf (by omega)
    obtain ⟨h4, e4, f4, c4⟩ := e_R_add hs3 c3 (by simp) (nI (pSet A f P))
    have hs4 := Fr_shape hs3 f4
    have mk4 := MK_fr mk3 f4 fun a j q => okW_cC (W90_ok q)
    have c94 := CB_at w mk4.1.2.2.1 hi
    obtain ⟨h5, e5, f5, c5⟩ := e_R_add hs4 c4 (by simp) (nI (bAt A f i))
    have hs5 := Fr_shape hs4 f5
    have mk5 := MK_fr mk4 f5 fun a j q => okW_cC (W90_ok q)
    have f35 := Fr_trans f3 (Fr_trans f4 f5)
    have d5 := DK_90 d2 f35
    have ff : Fr (Wlw f) h h5 := Fr_trans (Fr_mono f12 fun a j q => Or.inl q) (Fr_mono f35 fun a j q => Or.inr q)
    unfold lwW
    cases u with
    | true =>
      simp only [if_true] at hlw
      rw [hq] at hlw
      have hRn : lwR A f P i ≠ 0 := by simpa using hlw.symm
      have en := e_J_ntz h5 (x := lwR A f P i) (by omega) hRn
      have hlo := (low_pS w hRl hRn).1
      have c95 := CB_at w mk5.1.2.2.1 hlo
      have e8' : f * 8 + lowN (lwR A f P i) = 8 * f + lowN (lwR A f P i) := by omega
      obtain ⟨h6, e6, f6, c6⟩ := e_R_add hs5 c5 (by simp) (nI (bAt A f (lowN (lwR A f P i))))
      have hs6 := Fr_shape hs5 f6
      have hx0 : x = 0 := by rw [hx]
      subst hx0
      refine ⟨h6, _, ?_, Fr_trans ff (Fr_mono f6 fun a j q => Or.inr q), DK_90 d5 f6, by simpa using c6⟩
      clear d d1 d2 d5 mk mk1 mk2 mk3 mk4 mk5 f1 f2 f12 f3 f4 f5 f35 f6 ff cr cr2 c3 c4 c5 c6 hlw hq
      generalize lowN (lwR A f P i) = lo at *
      generalize lwR A f P i = RR at *
      generalize tP A f 0 P = T1 at *
      generalize tP A f 0 (P ||| 2 ^ i) = T2 at *
      generalize P ||| 2 ^ i = P2 at *
      generalize pSet A f P = PS at *
      generalize dA f = D at *
      simp (disch := first | assumption | omega) [f_S_isBreach, body_S_isBreach, j_meth, j_out, j_rok, j_pad, lg_sl, s_seq_w, isN_inl, isN_inr, s_if, jb, x_c, x_iloc, x_aloc, x_lloc, x_bin, x_un, o_add, o_sub, o_mul, o_and, o_or, o_xor, o_shl, o_shr, o_ushr, o_max, o_min, o_i2b, o_i2c, o_i2l, o_l2i, x_fld, j_fget, x_idx, j_aget, x_len, j_alen, x_ofb, x_ite, xs_nil, xs_cons, x_callv, x_calls, s_callv, s_calls, j_recv, j_ret, j_retv, b_cmp, b_and, b_or, b_not, b_ofi, b_ite, b_true, s_skip, s_set, j_ty, j_lset, j_kill, s_inc, s_fput, j_fput, s_fop, s_aput, j_aput, j_nar, s_aop, s_ret, s_retv, s_go, s_pop, x_linc, x_finc, Value.category, if_icmp.holds, List.flatMap_cons, List.flatMap_nil, List.length_cons, List.length_append, List.length_nil, List.set_cons_succ, List.set_cons_zero, List.getElem?_cons_succ, List.getElem?_cons_zero, List.replicate, ite_and', ite_or', ite_int', nI_leI, nI_ltI, nI_eq, nI_add, nI_1, pk_mul, nI_clamp, n_in', nI_pos', nI_pos, n_m1e, n_01, n_10, sT_1, sR_1_0, sR_1_1, sR_1_2, sR_1_3, sR_1_4, sR_1_5, sR_1_6, sR_1_7, sR_1_8, sR_1_9, sT_2, sT_3, sT_4, sT_5, sT_6, sT_7, sT_8, sT_9, sT_10, sT_11, sT_12, sT_13, sT_14, sR_2_1, sR_2_2, sR_2_3, sR_2_4, sR_2_5, sR_2_6, sR_2_7, sR_2_8, sR_2_9, sR_2_10, sR_2_11, sR_2_12, sT_15, sT_16, sT_17, sT_18, sT_19, sT_20, sT_21, sT_22, sT_23, sR_15_1, sR_15_2, sR_15_3, sR_15_4, sR_15_5, sR_15_6, sR_15_7, sR_15_8, sT_24, sT_25, sT_26, sT_27, sT_28, sT_29, sR_24_1, sR_24_2, sR_24_3, sR_24_4, sR_24_5, sT_71, sT_72, sR_71_0, sR_71_1, sR_71_2, sR_71_3, sR_71_4, sT_73, sT_74, sT_75, sR_73_0, sR_73_1, sR_73_2, sR_73_3, sR_73_4, sR_73_5, sT_84, sT_85, sT_86, sT_87, sR_84_0, sR_84_1, sR_84_2, sR_84_3, sR_84_4, sR_84_5, sT_88, sT_89, sR_88_0, sT_90, sT_91, sR_90_0, t30, r30, n0, u1, e1, t30', s30, v1, hsh, hor, e2, hR, hR0, hRn, h10, e3, esp3, e4, e8, c94, e5, en, e8', c95, e6, n_e1]
    | false =>
      have hx0 : (x = 0) = False := by rw [hx]; simp
      simp only [Bool.false_eq_true, if_false] at hlw ⊢
      rw [hq] at hlw
      have hlt : popN 32 (tP A f 0 (P ||| 2 ^ i)) < popN 32 (tP A f 0 P) := by simpa using hlw.symm
      refine ⟨h5, _, ?_, ff, d5, by simpa using c5⟩
      clear d d1 d2 d5 mk mk1 mk2 mk3 mk4 mk5 f1 f2 f12 f3 f4 f5 f35 ff cr cr2 c3 c4 c5 hlw hq
      generalize lwR A f P i = RR at *
      generalize popN 32 (tP A f 0 P) = n1 at *
      generalize popN 32 (tP A f 0 (P ||| 2 ^ i)) = n2 at *
      generalize tP A f 0 P = T1 at *
      generalize tP A f 0 (P ||| 2 ^ i) = T2 at *
      generalize P ||| 2 ^ i = P2 at *
      generalize pSet A f P = PS at *
      generalize dA f = D at *
      simp (disch := first | assumption | omega) [f_S_isBreach, body_S_isBreach, j_meth, j_out, j_rok, j_pad, lg_sl, s_seq_w, isN_inl, isN_inr, s_if, jb, x_c, x_iloc, x_aloc, x_lloc, x_bin, x_un, o_add, o_sub, o_mul, o_and, o_or, o_xor, o_shl, o_shr, o_ushr, o_max, o_min, o_i2b, o_i2c, o_i2l, o_l2i, x_fld, j_fget, x_idx, j_aget, x_len, j_alen, x_ofb, x_ite, xs_nil, xs_cons, x_callv, x_calls, s_callv, s_calls, j_recv, j_ret, j_retv, b_cmp, b_and, b_or, b_not, b_ofi, b_ite, b_true, s_skip, s_set, j_ty, j_lset, j_kill, s_inc, s_fput, j_fput, s_fop, s_aput, j_aput, j_nar, s_aop, s_ret, s_retv, s_go, s_pop, x_linc, x_finc, Value.category, if_icmp.holds, List.flatMap_cons, List.flatMap_nil, List.length_cons, List.length_append, List.length_nil, List.set_cons_succ, List.set_cons_zero, List.getElem?_cons_succ, List.getElem?_cons_zero, List.replicate, ite_and', ite_or', ite_int', nI_leI, nI_ltI, nI_eq, nI_add, nI_1, pk_mul, nI_clamp, n_in', nI_pos', nI_pos, n_m1e, n_01, n_10, sT_1, sR_1_0, sR_1_1, sR_1_2, sR_1_3, sR_1_4, sR_1_5, sR_1_6, sR_1_7, sR_1_8, sR_1_9, sT_2, sT_3, sT_4, sT_5, sT_6, sT_7, sT_8, sT_9, sT_10, sT_11, sT_12, sT_13, sT_14, sR_2_1, sR_2_2, sR_2_3, sR_2_4, sR_2_5, sR_2_6, sR_2_7, sR_2_8, sR_2_9, sR_2_10, sR_2_11, sR_2_12, sT_15, sT_16, sT_17, sT_18, sT_19, sT_20, sT_21, sT_22, sT_23, sR_15_1, sR_15_2, sR_15_3, sR_15_4, sR_15_5, sR_15_6, sR_15_7, sR_15_8, sT_24, sT_25, sT_26, sT_27, sT_28, sT_29, sR_24_1, sR_24_2, sR_24_3, sR_24_4, sR_24_5, sT_71, sT_72, sR_71_0, sR_71_1, sR_71_2, sR_71_3, sR_71_4, sT_73, sT_74, sT_75, sR_73_0, sR_73_1, sR_73_2, sR_73_3, sR_73_4, sR_73_5, sT_84, sT_85, sT_86, sT_87, sR_84_0, sR_84_1, sR_84_2, sR_84_3, sR_84_4, sR_84_5, sT_88, sT_89, sR_88_0, sT_90, sT_91, sR_90_0, t30, r30, n0, u1, e1, t30', s30, v1, hsh, hor, e2, hR, hx0, eb1, eb2, hlt, h10, e3, esp3, e4, e8, c94, e5, n_e1]
  · have hq' : lwQ A f u P i = false := by simpa using hq
    rw [hq'] at hlw
    rw [hq']
    simp only [Bool.false_eq_true, if_false]
    refine ⟨h2, _, ?_, Fr_mono f12 fun a j q => Or.inl q, d2, cr2⟩
    clear d d1 d2 mk mk1 mk2 f1 f2 f12 cr cr2 hq hq'
    cases u with
    | true =>
      simp only [if_true] at hlw
      have hRn : lwR A f P i = 0 := by
        have := hlw.symm
        simpa using this
      have hx0 : x = 0 := by rw [hx]
      subst hx0
      have hRz : (nI (lwR A f P i) = 0) = True := by rw [hR0]; exact eq_true hRn
      clear hRn hR0 hRl
      generalize lwR A f P i = RR at *
      generalize tP A f 0 P = T1 at *
      generalize tP A f 0 (P ||| 2 ^ i) = T2 at *
      generalize P ||| 2 ^ i = P2 at *
      generalize dA f = D at *
      simp (disch := first | assumption | omega) [f_S_isBreach, body_S_isBreach, j_meth, j_out, j_rok, j_pad, lg_sl, s_seq_w, isN_inl, isN_inr, s_if, jb, x_c, x_iloc, x_aloc, x_lloc, x_bin, x_un, o_add, o_sub, o_mul, o_and, o_or, o_xor, o_shl, o_shr, o_ushr, o_max, o_min, o_i2b, o_i2c, o_i2l, o_l2i, x_fld, j_fget, x_idx, j_aget, x_len, j_alen, x_ofb, x_ite, xs_nil, xs_cons, x_callv, x_calls, s_callv, s_calls, j_recv, j_ret, j_retv, b_cmp, b_and, b_or, b_not, b_ofi, b_ite, b_true, s_skip, s_set, j_ty, j_lset, j_kill, s_inc, s_fput, j_fput, s_fop, s_aput, j_aput, j_nar, s_aop, s_ret, s_retv, s_go, s_pop, x_linc, x_finc, Value.category, if_icmp.holds, List.flatMap_cons, List.flatMap_nil, List.length_cons, List.length_append, List.length_nil, List.set_cons_succ, List.set_cons_zero, List.getElem?_cons_succ, List.getElem?_cons_zero, List.replicate, ite_and', ite_or', ite_int', nI_leI, nI_ltI, nI_eq, nI_add, nI_1, pk_mul, nI_clamp, n_in', nI_pos', nI_pos, n_m1e, n_01, n_10, sT_1, sR_1_0, sR_1_1, sR_1_2, sR_1_3, sR_1_4, sR_1_5, sR_1_6, sR_1_7, sR_1_8, sR_1_9, sT_2, sT_3, sT_4, sT_5, sT_6, sT_7, sT_8, sT_9, sT_10, sT_11, sT_12, sT_13, sT_14, sR_2_1, sR_2_2, sR_2_3, sR_2_4, sR_2_5, sR_2_6, sR_2_7, sR_2_8, sR_2_9, sR_2_10, sR_2_11, sR_2_12, sT_15, sT_16, sT_17, sT_18, sT_19, sT_20, sT_21, sT_22, sT_23, sR_15_1, sR_15_2, sR_15_3, sR_15_4, sR_15_5, sR_15_6, sR_15_7, sR_15_8, sT_24, sT_25, sT_26, sT_27, sT_28, sT_29, sR_24_1, sR_24_2, sR_24_3, sR_24_4, sR_24_5, sT_71, sT_72, sR_71_0, sR_71_1, sR_71_2, sR_71_3, sR_71_4, sT_73, sT_74, sT_75, sR_73_0, sR_73_1, sR_73_2, sR_73_3, sR_73_4, sR_73_5, sT_84, sT_85, sT_86, sT_87, sR_84_0, sR_84_1, sR_84_2, sR_84_3, sR_84_4, sR_84_5, sT_88, sT_89, sR_88_0, sT_90, sT_91, sR_90_0, t30, r30, n0, u1, e1, t30', s30, v1, hsh, hor, e2, hR, hRz]
      decide
    | false =>
      have hx0 : (x = 0) = False := by rw [hx]; simp
      simp only [Bool.false_eq_true, if_false] at hlw
      have hlt : ¬ popN 32 (tP A f 0 (P ||| 2 ^ i)) < popN 32 (tP A f 0 P) := by
        have := hlw.symm
        simpa using this
      generalize lwR A f P i = RR at *
      generalize popN 32 (tP A f 0 P) = n1 at *
      generalize popN 32 (tP A f 0 (P ||| 2 ^ i)) = n2 at *
      generalize tP A f 0 P = T1 at *
      generalize tP A f 0 (P ||| 2 ^ i) = T2 at *
      generalize P ||| 2 ^ i = P2 at *
      generalize dA f = D at *
      simp (disch := first | assumption | omega) [f_S_isBreach, body_S_isBreach, j_meth, j_out, j_rok, j_pad, lg_sl, s_seq_w, isN_inl, isN_inr, s_if, jb, x_c, x_iloc, x_aloc, x_lloc, x_bin, x_un, o_add, o_sub, o_mul, o_and, o_or, o_xor, o_shl, o_shr, o_ushr, o_max, o_min, o_i2b, o_i2c, o_i2l, o_l2i, x_fld, j_fget, x_idx, j_aget, x_len, j_alen, x_ofb, x_ite, xs_nil, xs_cons, x_callv, x_calls, s_callv, s_calls, j_recv, j_ret, j_retv, b_cmp, b_and, b_or, b_not, b_ofi, b_ite, b_true, s_skip, s_set, j_ty, j_lset, j_kill, s_inc, s_fput, j_fput, s_fop, s_aput, j_aput, j_nar, s_aop, s_ret, s_retv, s_go, s_pop, x_linc, x_finc, Value.category, if_icmp.holds, List.flatMap_cons, List.flatMap_nil, List.length_cons, List.length_append, List.length_nil, List.set_cons_succ, List.set_cons_zero, List.getElem?_cons_succ, List.getElem?_cons_zero, List.replicate, ite_and', ite_or', ite_int', nI_leI, nI_ltI, nI_eq, nI_add, nI_1, pk_mul, nI_clamp, n_in', nI_pos', nI_pos, n_m1e, n_01, n_10, sT_1, sR_1_0, sR_1_1, sR_1_2, sR_1_3, sR_1_4, sR_1_5, sR_1_6, sR_1_7, sR_1_8, sR_1_9, sT_2, sT_3, sT_4, sT_5, sT_6, sT_7, sT_8, sT_9, sT_10, sT_11, sT_12, sT_13, sT_14, sR_2_1, sR_2_2, sR_2_3, sR_2_4, sR_2_5, sR_2_6, sR_2_7, sR_2_8, sR_2_9, sR_2_10, sR_2_11, sR_2_12, sT_15, sT_16, sT_17, sT_18, sT_19, sT_20, sT_21, sT_22, sT_23, sR_15_1, sR_15_2, sR_15_3, sR_15_4, sR_15_5, sR_15_6, sR_15_7, sR_15_8, sT_24, sT_25, sT_26, sT_27, sT_28, sT_29, sR_24_1, sR_24_2, sR_24_3, sR_24_4, sR_24_5, sT_71, sT_72, sR_71_0, sR_71_1, sR_71_2, sR_71_3, sR_71_4, sT_73, sT_74, sT_75, sR_73_0, sR_73_1, sR_73_2, sR_73_3, sR_73_4, sR_73_5, sT_84, sT_85, sT_86, sT_87, sR_84_0, sR_84_1, sR_84_2, sR_84_3, sR_84_4, sR_84_5, sT_88, sT_89, sR_88_0, sT_90, sT_91, sR_90_0, t30, r30, n0, u1, e1, t30', s30, v1, hsh, hor, e2, hR, hx0, eb1, eb2, hlt]
      decide
