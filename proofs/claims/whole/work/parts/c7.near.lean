/-! the Walk: NEAREST -/
theorem wk_ok {A : AS} (w : WF A) {mv : Nat → Nat} : ∀ l S, (∀ b ∈ l, b < aNb A ∧ lvP A b = true) → okS A S → ∀ T ∈ wk A mv l S, okS A T := by
  intro l
  induction l with
  | nil =>
    intro S _ hS T hT
    simp only [wk, List.mem_singleton] at hT
    rw [hT]; exact hS
  | cons b l ih =>
    intro S hl hS T hT
    simp only [wk, List.mem_append] at hT
    rcases hT with hT | hT
    · exact ih S (fun c hc => hl c (List.mem_cons_of_mem _ hc)) hS T hT
    · by_cases hw : wkO A mv S b = true
      · rw [if_pos hw] at hT
        obtain ⟨b1, b2⟩ := hl b (List.mem_cons_self ..)
        unfold wkO at hw
        simp only [Bool.and_eq_true, Bool.not_eq_true'] at hw
        exact ih _ (fun c hc => hl c (List.mem_cons_of_mem _ hc)) (okS_or w hS b1 hw.1 b2) T hT
      · rw [if_neg hw] at hT; cases hT
theorem wk_okS {A : AS} (w : WF A) {mv : Nat → Nat} {T : Nat} (h : T ∈ wk A mv (lvL A (aNb A)) 0) : okS A T := wk_ok w _ _ (fun b hb => (lvL_mem _ _).mp hb) (okS_0 A) T h
theorem nfo_cnt (p : Nat → Bool) (c : Nat) : ∀ n, nfo (fun b n => if p b then n + 1 else n) n c = cntN p n + c := by
  intro n
  induction n with
  | zero => simp [nfo, cntN]
  | succ n ih =>
    have e : nfo (fun b n => if p b then n + 1 else n) (n + 1) c = if p n then nfo (fun b n => if p b then n + 1 else n) n c + 1 else nfo (fun b n => if p b then n + 1 else n) n c := rfl
    have e2 : cntN p (n + 1) = if p n then cntN p n + 1 else cntN p n := rfl
    rw [e, e2, ih]
    split <;> omega
theorem cntN_congr' {p q : Nat → Bool} {n : Nat} (h : ∀ i, i < n → p i = q i) : cntN p n = cntN q n := by
  unfold cntN
  exact nfo_congr fun i hi t => by rw [h i hi]
theorem ofP_ok {A : AS} (w : WF A) (S : Nat) {b : Nat} (hb : b < aNb A) : sOfP A S b = obP A A S (sWt A S) b := by
  unfold sOfP obP
  congr 2
  have hbo : (2 ^ b) &&& sOff A (aOf A b) = 2 ^ b := by
    apply Nat.eq_of_testBit_eq
    intro i
    rw [Nat.testBit_and, Nat.testBit_two_pow]
    by_cases q : b = i
    · subst q
      have : (sOff A (aOf A b)).testBit b = true := by
        have := sOff_bit A (aOf A b) (aNb A) b
        unfold sOff
        rw [this]
        simp [hb]
      rw [this]; simp
    · simp [q]
  rw [← sTk_off w (aOf A b) (S ||| 2 ^ b), Nat.and_or_distrib_right, hbo]
theorem ofN_ok {A : AS} (w : WF A) (S : Nat) : sOfN A S = cntN (obP A A S (sWt A S)) (aNb A) + cntN (fun c => (sBrP A S c).isSome) (aNc A) := by
  unfold sOfN
  rw [nfo_cnt (sOfP A S), cntN_congr' fun i hi => ofP_ok w S hi]
-- purely
def arN (A : AS) (S : Nat) (s : Nat × Nat) : Bool × (Nat × Nat) := if sFree A S then (decide ((if sOfN A S < s.1 then (sOfN A S, S) else s).1 = 0), if sOfN A S < s.1 then (sOfN A S, S) else s) else (false, s)
theorem vst_N (A : AS) : ∀ (L : List Nat) (s : Nat × Nat), L.Pairwise (· < ·) → s.1 ≠ 0 → (s.1 ≤ 22 → ∀ T ∈ L, s.2 ≤ T) → (∀ T ∈ L, sOfN A T ≤ 22) →
    (∀ T ∈ L, sFree A T = true → (vst (arN A) L s).2.1 < sOfN A T ∨ ((vst (arN A) L s).2.1 = sOfN A T ∧ (vst (arN A) L s).2.2 ≤ T)) ∧ ((vst (arN A) L s).2 = s ∨ ((vst (arN A) L s).2.2 ∈ L ∧ sFree A (vst (arN A) L s).2.2 = true ∧ (vst (arN A) L s).2.1 = sOfN A (vst (arN A) L s).2.2 ∧ (vst (arN A) L s).2.1 < s.1)) := by
  intro L
  induction L with
  | nil => intro s _ _ _ _; exact ⟨fun T hT => (by cases hT), Or.inl rfl⟩
  | cons S L ih =>
    intro s hp h0 hle h22
    rw [List.pairwise_cons] at hp
    have ih' := fun s' h0' hle' => ih s' hp.2 h0' hle' (fun T hT => h22 T (List.mem_cons_of_mem _ hT))
    cases hf : sFree A S with
    | false =>
      have e : vst (arN A) (S :: L) s = vst (arN A) L s := by
        simp [vst, arN, hf]
      rw [e]
      obtain ⟨i1, i2⟩ := ih' s h0 fun z T hT => hle z T (List.mem_cons_of_mem _ hT)
      refine ⟨fun T hT hTf => ?_, ?_⟩
      · rcases List.mem_cons.mp hT with q | q
        · rw [q, hf] at hTf; cases hTf
        · exact i1 T q hTf
      · rcases i2 with q | ⟨q1, q2⟩
        · exact Or.inl q
        · exact Or.inr ⟨List.mem_cons_of_mem _ q1, q2⟩
    | true =>
      by_cases hlt : sOfN A S < s.1
      · by_cases hz : sOfN A S = 0
        · have e : vst (arN A) (S :: L) s = (true, (sOfN A S, S)) := by
            have hlt0 : 0 < s.1 := by omega
            simp [vst, arN, hf, hz, hlt0]
          rw [e]
          refine ⟨fun T hT hTf => ?_, Or.inr ⟨List.mem_cons_self .., hf, rfl, hlt⟩⟩
          simp only
          rcases List.mem_cons.mp hT with q | q
          · subst q; exact Or.inr ⟨rfl, Nat.le_refl _⟩
          · have := hp.1 T q
            omega
        · have e : vst (arN A) (S :: L) s = vst (arN A) L (sOfN A S, S) := by
            simp [vst, arN, hf, hlt, hz]
          rw [e]
          obtain ⟨i1, i2⟩ := ih' (sOfN A S, S) hz fun _ T hT => Nat.le_of_lt (hp.1 T hT)
          refine ⟨fun T hT hTf => ?_, ?_⟩
          · rcases List.mem_cons.mp hT with q | q
            · subst q
              rcases i2 with q | ⟨q1, q2, q3, q4⟩
              · rw [q]; exact Or.inr ⟨rfl, Nat.le_refl _⟩
              · exact Or.inl q4
            · exact i1 T q hTf
          · right
            rcases i2 with q | ⟨q1, q2, q3, q4⟩
            · rw [q]; exact ⟨List.mem_cons_self .., hf, rfl, hlt⟩
            · exact ⟨List.mem_cons_of_mem _ q1, q2, q3, Nat.lt_trans q4 hlt⟩
      · have e : vst (arN A) (S :: L) s = vst (arN A) L s := by
          simp [vst, arN, hf, hlt, h0]
        rw [e]
        obtain ⟨i1, i2⟩ := ih' s h0 fun z T hT => hle z T (List.mem_cons_of_mem _ hT)
        have hS22 := h22 S (List.mem_cons_self ..)
        refine ⟨fun T hT hTf => ?_, ?_⟩
        · rcases List.mem_cons.mp hT with q | q
          · subst q
            have hsl := hle (by omega) T (List.mem_cons_self ..)
            rcases i2 with q | ⟨q1, q2, q3, q4⟩
            · rw [q]
              by_cases z : s.1 = sOfN A T
              · exact Or.inr ⟨z, hsl⟩
              · exact Or.inl (by omega)
            · exact Or.inl (by omega)
          · exact i1 T q hTf
        · rcases i2 with q | ⟨q1, q2⟩
          · exact Or.inl q
          · exact Or.inr ⟨List.mem_cons_of_mem _ q1, q2⟩
theorem near_ok {A : AS} (w : WF A) : sNr A = some (vst (arN A) (wk A (fun _ => 0) (lvL A (aNb A)) 0) (23, 0)).2 := by
  have hA : aMv A (fun _ => 0) = A := aMv_0 A _ fun _ => rfl
  obtain ⟨i1, i2⟩ := vst_N A (wk A (fun _ => 0) (lvL A (aNb A)) 0) (23, 0) (wk_asc A _) (by decide) (fun q => by simp at q) (fun T _ => sOfN_le w T)
  generalize (vst (arN A) (wk A (fun _ => 0) (lvL A (aNb A)) 0) (23, 0)).2 = s at *
  cases hq : sNr A with
  | none => exact absurd hq (sNr_some w)
  | some q =>
    obtain ⟨q1, q2, q3, q4⟩ := sNr_spec.1 q hq
    obtain ⟨g1, g2, g3⟩ := (gen_mem w).mp q1
    have j1 := i1 q.2 (wk_free w g1 g2 (by rw [hA]; exact q2)) q2
    have l22 := sOfN_le w q.2
    rcases i2 with z | ⟨z1, z2, z3, z4⟩
    · rw [z] at j1
      simp only at j1
      omega
    · have o := wk_okS w z1
      have j2 := q4 s.2 ((gen_mem w).mpr ⟨o.1, o.2.1, fun b hb ht => free_elg w o.2.1 z2 hb ht⟩) z2
      have e1 : q.1 = s.1 := by omega
      have e2 : q.2 = s.2 := by omega
      congr 1
      exact Prod.ext e1 e2
-- the code
def InN (A : AS) (h0 : jHp) (s : Nat × Nat) (h : jHp) : Prop := MV A (fun _ => 0) h ∧ WLv A h ∧ hI h 73 7 = nI 1 ∧ hI h 73 9 = nI s.1 ∧ hI h 73 10 = nI s.2 ∧ s.1 ≤ 23 ∧ Fr Wpr h0 h
def W739 (a j : Nat) : Prop := a = 73 ∧ (j = 9 ∨ j = 10)
theorem e_W_weigh {A : AS} {h0 h : jHp} {s : Nat × Nat} {S : Nat} (oS : okS A S) (i : InN A h0 s h) : ∃ h', f_W_weigh [.ref 73, .int (nI S), .int (nI (sOfN A S))] h = some (some (.int (if decide ((if sOfN A S < s.1 then (sOfN A S, S) else s).1 = 0) then 1 else 0)), h') ∧ InN A h0 (if sOfN A S < s.1 then (sOfN A S, S) else s) h' := by
  obtain ⟨x, lv, g7, g9, g10, h23, fr⟩ := i
  have hs := x.1.1.1
  have w := x.1.1.2.1
  have h22 := sOfN_le w S
  have t73 := sT_73 hs
  have r3 := sR_73_3 hs
  by_cases hlt : sOfN A S < s.1
  · rw [if_pos hlt]
    generalize hh1 : hSetI h 73 9 (nI (sOfN A S)) = h1
    generalize hh2 : hSetI h1 73 10 (nI S) = h2
    have f1 : Fr W739 h h1 := by rw [← hh1]; exact Fr_set _ ⟨rfl, Or.inl rfl⟩
    have f2 : Fr W739 h h2 := Fr_trans f1 (by rw [← hh2]; exact Fr_set _ ⟨rfl, Or.inr rfl⟩)
    have hs1 := Fr_shape hs f1
    have hs2 := Fr_shape hs f2
    have c9 : hI h2 73 9 = nI (sOfN A S) := by rw [← hh2, hI_setI, if_neg (by omega), ← hh1, hI_setI, if_pos ⟨rfl, rfl⟩]
    refine ⟨h2, ?_, MV_g x (FG_Fr (U := fun _ _ => False) f2) fun a j q => by unfold W739 at q; omega, WLv_g hs lv (FG_Fr (U := fun _ _ => False) f2) fun a j q => by unfold W739 at q; omega, ?_, c9, ?_, by simp only; omega, Fr_trans fr (Fr_mono f2 fun a j q => by unfold W739 at q; unfold Wpr; omega)⟩
    · have hz : (nI (sOfN A S) = 0) = (sOfN A S = 0) := propext (n_eq0 (by omega))
      clear x lv f1 f2 fr
      simp only
      generalize sOfN A S = N at *
      have hs1' : Shape (hSetI h 73 9 (nI N)) := by rw [hh1]; exact hs1
      by_cases q : N = 0
      · have hb : (nI N = 0) = True := by rw [hz]; simp [q]
        have hd : decide (N = 0) = true := by simp [q]
        rw [hd]
        clear q hd hz
        simp (disch := first | assumption | omega) [f_W_weigh, body_W_weigh, j_meth, j_out, j_rok, j_pad, lg_sl, s_seq_w, isN_inl, isN_inr, s_if, jb, x_c, x_iloc, x_aloc, x_lloc, x_bin, x_un, o_add, o_sub, o_mul, o_and, o_or, o_xor, o_shl, o_shr, o_ushr, o_max, o_min, o_i2b, o_i2c, o_i2l, o_l2i, x_fld, j_fget, x_idx, j_aget, x_len, j_alen, x_ofb, x_ite, xs_nil, xs_cons, x_callv, x_calls, s_callv, s_calls, j_recv, j_ret, j_retv, b_cmp, b_and, b_or, b_not, b_ofi, b_ite, b_true, s_skip, s_set, j_ty, j_lset, j_kill, s_inc, s_fput, j_fput, s_fop, s_aput, j_aput, j_nar, s_aop, s_ret, s_retv, s_go, s_pop, x_linc, x_finc, Value.category, if_icmp.holds, List.flatMap_cons, List.flatMap_nil, List.length_cons, List.length_append, List.length_nil, List.set_cons_succ, List.set_cons_zero, List.getElem?_cons_succ, List.getElem?_cons_zero, List.replicate, ite_and', ite_or', ite_int', nI_leI, nI_ltI, nI_eq, nI_add, nI_1, pk_mul, nI_clamp, n_in', nI_pos', nI_pos, n_m1e, n_01, n_10, sT_1, sR_1_0, sR_1_1, sR_1_2, sR_1_3, sR_1_4, sR_1_5, sR_1_6, sR_1_7, sR_1_8, sR_1_9, sT_2, sT_3, sT_4, sT_5, sT_6, sT_7, sT_8, sT_9, sT_10, sT_11, sT_12, sT_13, sT_14, sR_2_1, sR_2_2, sR_2_3, sR_2_4, sR_2_5, sR_2_6, sR_2_7, sR_2_8, sR_2_9, sR_2_10, sR_2_11, sR_2_12, sT_15, sT_16, sT_17, sT_18, sT_19, sT_20, sT_21, sT_22, sT_23, sR_15_1, sR_15_2, sR_15_3, sR_15_4, sR_15_5, sR_15_6, sR_15_7, sR_15_8, sT_24, sT_25, sT_26, sT_27, sT_28, sT_29, sR_24_1, sR_24_2, sR_24_3, sR_24_4, sR_24_5, sT_71, sT_72, sR_71_0, sR_71_1, sR_71_2, sR_71_3, sR_71_4, sT_73, sT_74, sT_75, sR_73_0, sR_73_1, sR_73_2, sR_73_3, sR_73_4, sR_73_5, sT_84, sT_85, sT_86, sT_87, sR_84_0, sR_84_1, sR_84_2, sR_84_3, sR_84_4, sR_84_5, sT_88, sT_89, sR_88_0, sT_90, sT_91, sR_90_0, g9, hlt, hh1, hh2, c9, hb]
      · simp (disch := first | assumption | omega) [f_W_weigh, body_W_weigh, j_meth, j_out, j_rok, j_pad, lg_sl, s_seq_w, isN_inl, isN_inr, s_if, jb, x_c, x_iloc, x_aloc, x_lloc, x_bin, x_un, o_add, o_sub, o_mul, o_and, o_or, o_xor, o_shl, o_shr, o_ushr, o_max, o_min, o_i2b, o_i2c, o_i2l, o_l2i, x_fld, j_fget, x_idx, j_aget, x_len, j_alen, x_ofb, x_ite, xs_nil, xs_cons, x_callv, x_calls, s_callv, s_calls, j_recv, j_ret, j_retv, b_cmp, b_and, b_or, b_not, b_ofi, b_ite, b_true, s_skip, s_set, j_ty, j_lset, j_kill, s_inc, s_fput, j_fput, s_fop, s_aput, j_aput, j_nar, s_aop, s_ret, s_retv, s_go, s_pop, x_linc, x_finc, Value.category, if_icmp.holds, List.flatMap_cons, List.flatMap_nil, List.length_cons, List.length_append, List.length_nil, List.set_cons_succ, List.set_cons_zero, List.getElem?_cons_succ, List.getElem?_cons_zero, List.replicate, ite_and', ite_or', ite_int', nI_leI, nI_ltI, nI_eq, nI_add, nI_1, pk_mul, nI_clamp, n_in', nI_pos', nI_pos, n_m1e, n_01, n_10, sT_1, sR_1_0, sR_1_1, sR_1_2, sR_1_3, sR_1_4, sR_1_5, sR_1_6, sR_1_7, sR_1_8, sR_1_9, sT_2, sT_3, sT_4, sT_5, sT_6, sT_7, sT_8, sT_9, sT_10, sT_11, sT_12, sT_13, sT_14, sR_2_1, sR_2_2, sR_2_3, sR_2_4, sR_2_5, sR_2_6, sR_2_7, sR_2_8, sR_2_9, sR_2_10, sR_2_11, sR_2_12, sT_15, sT_16, sT_17, sT_18, sT_19, sT_20, sT_21, sT_22, sT_23, sR_15_1, sR_15_2, sR_15_3, sR_15_4, sR_15_5, sR_15_6, sR_15_7, sR_15_8, sT_24, sT_25, sT_26, sT_27, sT_28, sT_29, sR_24_1, sR_24_2, sR_24_3, sR_24_4, sR_24_5, sT_71, sT_72, sR_71_0, sR_71_1, sR_71_2, sR_71_3, sR_71_4, sT_73, sT_74, sT_75, sR_73_0, sR_73_1, sR_73_2, sR_73_3, sR_73_4, sR_73_5, sT_84, sT_85, sT_86, sT_87, sR_84_0, sR_84_1, sR_84_2, sR_84_3, sR_84_4, sR_84_5, sT_88, sT_89, sR_88_0, sT_90, sT_91, sR_90_0, g9, hlt, hh1, hh2, c9, hz, q]
    · rw [Fr_I f2 fun q => by unfold W739 at q; omega]; exact g7
    · rw [← hh2, hI_setI, if_pos ⟨rfl, rfl⟩]
  · rw [if_neg hlt]
    refine ⟨h, ?_, x, lv, g7, g9, g10, h23, fr⟩
    have hz : (nI s.1 = 0) = (s.1 = 0) := propext (n_eq0 (by omega))
    clear x lv fr
    generalize sOfN A S = N at *
    generalize s.1 = F at *
    by_cases q : F = 0
    · have hb : (nI F = 0) = True := by rw [hz]; simp [q]
      have hd : decide (F = 0) = true := by simp [q]
      rw [hd]
      clear q hd hz
      simp (disch := first | assumption | omega) [f_W_weigh, body_W_weigh, j_meth, j_out, j_rok, j_pad, lg_sl, s_seq_w, isN_inl, isN_inr, s_if, jb, x_c, x_iloc, x_aloc, x_lloc, x_bin, x_un, o_add, o_sub, o_mul, o_and, o_or, o_xor, o_shl, o_shr, o_ushr, o_max, o_min, o_i2b, o_i2c, o_i2l, o_l2i, x_fld, j_fget, x_idx, j_aget, x_len, j_alen, x_ofb, x_ite, xs_nil, xs_cons, x_callv, x_calls, s_callv, s_calls, j_recv, j_ret, j_retv, b_cmp, b_and, b_or, b_not, b_ofi, b_ite, b_true, s_skip, s_set, j_ty, j_lset, j_kill, s_inc, s_fput, j_fput, s_fop, s_aput, j_aput, j_nar, s_aop, s_ret, s_retv, s_go, s_pop, x_linc, x_finc, Value.category, if_icmp.holds, List.flatMap_cons, List.flatMap_nil, List.length_cons, List.length_append, List.length_nil, List.set_cons_succ, List.set_cons_zero, List.getElem?_cons_succ, List.getElem?_cons_zero, List.replicate, ite_and', ite_or', ite_int', nI_leI, nI_ltI, nI_eq, nI_add, nI_1, pk_mul, nI_clamp, n_in', nI_pos', nI_pos, n_m1e, n_01, n_10, sT_1, sR_1_0, sR_1_1, sR_1_2, sR_1_3, sR_1_4, sR_1_5, sR_1_6, sR_1_7, sR_1_8, sR_1_9, sT_2, sT_3, sT_4, sT_5, sT_6, sT_7, sT_8, sT_9, sT_10, sT_11, sT_12, sT_13, sT_14, sR_2_1, sR_2_2, sR_2_3, sR_2_4, sR_2_5, sR_2_6, sR_2_7, sR_2_8, sR_2_9, sR_2_10, sR_2_11, sR_2_12, sT_15, sT_16, sT_17, sT_18, sT_19, sT_20, sT_21, sT_22, sT_23, sR_15_1, sR_15_2, sR_15_3, sR_15_4, sR_15_5, sR_15_6, sR_15_7, sR_15_8, sT_24, sT_25, sT_26, sT_27, sT_28, sT_29, sR_24_1, sR_24_2, sR_24_3, sR_24_4, sR_24_5, sT_71, sT_72, sR_71_0, sR_71_1, sR_71_2, sR_71_3, sR_71_4, sT_73, sT_74, sT_75, sR_73_0, sR_73_1, sR_73_2, sR_73_3, sR_73_4, sR_73_5, sT_84, sT_85, sT_86, sT_87, sR_84_0, sR_84_1, sR_84_2, sR_84_3, sR_84_4, sR_84_5, sT_88, sT_89, sR_88_0, sT_90, sT_91, sR_90_0, g9, hlt, hb]
    · simp (disch := first | assumption | omega) [f_W_weigh, body_W_weigh, j_meth, j_out, j_rok, j_pad, lg_sl, s_seq_w, isN_inl, isN_inr, s_if, jb, x_c, x_iloc, x_aloc, x_lloc, x_bin, x_un, o_add, o_sub, o_mul, o_and, o_or, o_xor, o_shl, o_shr, o_ushr, o_max, o_min, o_i2b, o_i2c, o_i2l, o_l2i, x_fld, j_fget, x_idx, j_aget, x_len, j_alen, x_ofb, x_ite, xs_nil, xs_cons, x_callv, x_calls, s_callv, s_calls, j_recv, j_ret, j_retv, b_cmp, b_and, b_or, b_not, b_ofi, b_ite, b_true, s_skip, s_set, j_ty, j_lset, j_kill, s_inc, s_fput, j_fput, s_fop, s_aput, j_aput, j_nar, s_aop, s_ret, s_retv, s_go, s_pop, x_linc, x_finc, Value.category, if_icmp.holds, List.flatMap_cons, List.flatMap_nil, List.length_cons, List.length_append, List.length_nil, List.set_cons_succ, List.set_cons_zero, List.getElem?_cons_succ, List.getElem?_cons_zero, List.replicate, ite_and', ite_or', ite_int', nI_leI, nI_ltI, nI_eq, nI_add, nI_1, pk_mul, nI_clamp, n_in', nI_pos', nI_pos, n_m1e, n_01, n_10, sT_1, sR_1_0, sR_1_1, sR_1_2, sR_1_3, sR_1_4, sR_1_5, sR_1_6, sR_1_7, sR_1_8, sR_1_9, sT_2, sT_3, sT_4, sT_5, sT_6, sT_7, sT_8, sT_9, sT_10, sT_11, sT_12, sT_13, sT_14, sR_2_1, sR_2_2, sR_2_3, sR_2_4, sR_2_5, sR_2_6, sR_2_7, sR_2_8, sR_2_9, sR_2_10, sR_2_11, sR_2_12, sT_15, sT_16, sT_17, sT_18, sT_19, sT_20, sT_21, sT_22, sT_23, sR_15_1, sR_15_2, sR_15_3, sR_15_4, sR_15_5, sR_15_6, sR_15_7, sR_15_8, sT_24, sT_25, sT_26, sT_27, sT_28, sT_29, sR_24_1, sR_24_2, sR_24_3, sR_24_4, sR_24_5, sT_71, sT_72, sR_71_0, sR_71_1, sR_71_2, sR_71_3, sR_71_4, sT_73, sT_74, sT_75, sR_73_0, sR_73_1, sR_73_2, sR_73_3, sR_73_4, sR_73_5, sT_84, sT_85, sT_86, sT_87, sR_84_0, sR_84_1, sR_84_2, sR_84_3, sR_84_4, sR_84_5, sT_88, sT_89, sR_88_0, sT_90, sT_91, sR_90_0, g9, hlt, hz, q]
theorem e_W_arrN {A : AS} {h0 h : jHp} {s : Nat × Nat} {S : Nat} (oS : okS A S) (i : InN A h0 s h) :
    ∃ h', f_W_arrive [.ref 73, .int (nI S), .int (nI (slM A S)), .int (nI (slM A (sWt A S)))] h = some (some (.int (if (arN A S s).1 then 1 else 0)), h') ∧ InN A h0 (arN A S s).2 h' := by
  have x := i.1
  have g7 := i.2.2.1
  have hs := x.1.1.1
  have hA : aMv A (fun _ => 0) = A := aMv_0 A _ fun _ => rfl
  have e0 := e_W_arr0 x oS (nI (slM A (sWt A S)))
  rw [hA] at e0
  rw [W_arrive_s]
  unfold arN
  by_cases hf : sFree A S = true
  case neg =>
    have hf' : sFree A S = false := by simpa using hf
    rw [hf'] at e0 ⊢
    refine ⟨h, ?_, i⟩
    simp only [Bool.false_eq_true, if_false] at e0 ⊢
    generalize slM A (sWt A S) = s2 at *
    generalize slM A S = s1 at *
    simp (disch := first | assumption | omega) [j_meth, j_out, j_rok, j_pad, lg_sl, s_seq_w, isN_inl, isN_inr, s_if, jb, x_c, x_iloc, x_aloc, x_lloc, x_bin, x_un, o_add, o_sub, o_mul, o_and, o_or, o_xor, o_shl, o_shr, o_ushr, o_max, o_min, o_i2b, o_i2c, o_i2l, o_l2i, x_fld, j_fget, x_idx, j_aget, x_len, j_alen, x_ofb, x_ite, xs_nil, xs_cons, x_callv, x_calls, s_callv, s_calls, j_recv, j_ret, j_retv, b_cmp, b_and, b_or, b_not, b_ofi, b_ite, b_true, s_skip, s_set, j_ty, j_lset, j_kill, s_inc, s_fput, j_fput, s_fop, s_aput, j_aput, j_nar, s_aop, s_ret, s_retv, s_go, s_pop, x_linc, x_finc, Value.category, if_icmp.holds, List.flatMap_cons, List.flatMap_nil, List.length_cons, List.length_append, List.length_nil, List.set_cons_succ, List.set_cons_zero, List.getElem?_cons_succ, List.getElem?_cons_zero, List.replicate, e0]
  rw [hf] at e0 ⊢
  simp only [if_true] at e0 ⊢
  obtain ⟨h1, e1, i1⟩ := e_W_weigh oS i
  refine ⟨h1, ?_, i1⟩
  have hs1 := i1.1.1.1.1
  have eb1 := e_Ma_breakingBonds x S (sWt A S)
  have eb2 := e_Ma_breakingCouples x oS.1 oS.2.1
  rw [hA] at eb1 eb2
  have hn := ofN_ok x.1.1.2.1 S
  clear x i i1
  generalize cntN (obP A A S (sWt A S)) (aNb A) = n1 at *
  generalize cntN (fun c => (sBrP A S c).isSome) (aNc A) = n2 at *
  have ha : nI n1 + nI n2 = nI (sOfN A S) := by rw [nI_add, hn]
  have ha' : nI (n1 + n2) = nI (sOfN A S) := by rw [hn]
  generalize slM A (sWt A S) = s2 at *
  generalize slM A S = s1 at *
  generalize decide ((if sOfN A S < s.1 then (sOfN A S, S) else s).1 = 0) = b at *
  clear hn
  generalize sOfN A S = N at *
  have e2 : wa_1 ([.ref 73, .int (nI S), .int (nI s1), .int (nI s2)], h) = some (.inr (some (.int (if b then 1 else 0))), ([.ref 73, .int (nI S), .int (nI s1), .int (nI s2)], h1)) := by
    simp (disch := first | assumption | omega) [wa_1, j_meth, j_out, j_rok, j_pad, lg_sl, s_seq_w, isN_inl, isN_inr, s_if, jb, x_c, x_iloc, x_aloc, x_lloc, x_bin, x_un, o_add, o_sub, o_mul, o_and, o_or, o_xor, o_shl, o_shr, o_ushr, o_max, o_min, o_i2b, o_i2c, o_i2l, o_l2i, x_fld, j_fget, x_idx, j_aget, x_len, j_alen, x_ofb, x_ite, xs_nil, xs_cons, x_callv, x_calls, s_callv, s_calls, j_recv, j_ret, j_retv, b_cmp, b_and, b_or, b_not, b_ofi, b_ite, b_true, s_skip, s_set, j_ty, j_lset, j_kill, s_inc, s_fput, j_fput, s_fop, s_aput, j_aput, j_nar, s_aop, s_ret, s_retv, s_go, s_pop, x_linc, x_finc, Value.category, if_icmp.holds, List.flatMap_cons, List.flatMap_nil, List.length_cons, List.length_append, List.length_nil, List.set_cons_succ, List.set_cons_zero, List.getElem?_cons_succ, List.getElem?_cons_zero, List.replicate, ite_and', ite_or', ite_int', nI_leI, nI_ltI, nI_eq, nI_add, nI_1, pk_mul, nI_clamp, n_in', nI_pos', nI_pos, n_m1e, n_01, n_10, sT_1, sR_1_0, sR_1_1, sR_1_2, sR_1_3, sR_1_4, sR_1_5, sR_1_6, sR_1_7, sR_1_8, sR_1_9, sT_2, sT_3, sT_4, sT_5, sT_6, sT_7, sT_8, sT_9, sT_10, sT_11, sT_12, sT_13, sT_14, sR_2_1, sR_2_2, sR_2_3, sR_2_4, sR_2_5, sR_2_6, sR_2_7, sR_2_8, sR_2_9, sR_2_10, sR_2_11, sR_2_12, sT_15, sT_16, sT_17, sT_18, sT_19, sT_20, sT_21, sT_22, sT_23, sR_15_1, sR_15_2, sR_15_3, sR_15_4, sR_15_5, sR_15_6, sR_15_7, sR_15_8, sT_24, sT_25, sT_26, sT_27, sT_28, sT_29, sR_24_1, sR_24_2, sR_24_3, sR_24_4, sR_24_5, sT_71, sT_72, sR_71_0, sR_71_1, sR_71_2, sR_71_3, sR_71_4, sT_73, sT_74, sT_75, sR_73_0, sR_73_1, sR_73_2, sR_73_3, sR_73_4, sR_73_5, sT_84, sT_85, sT_86, sT_87, sR_84_0, sR_84_1, sR_84_2, sR_84_3, sR_84_4, sR_84_5, sT_88, sT_89, sR_88_0, sT_90, sT_91, sR_90_0, g7, eb1, eb2, ha, ha', e1]
  cases b <;> simp (disch := first | assumption | omega) [j_meth, j_out, j_rok, j_pad, lg_sl, s_seq_w, isN_inl, isN_inr, s_if, jb, x_c, x_iloc, x_aloc, x_lloc, x_bin, x_un, o_add, o_sub, o_mul, o_and, o_or, o_xor, o_shl, o_shr, o_ushr, o_max, o_min, o_i2b, o_i2c, o_i2l, o_l2i, x_fld, j_fget, x_idx, j_aget, x_len, j_alen, x_ofb, x_ite, xs_nil, xs_cons, x_callv, x_calls, s_callv, s_calls, j_recv, j_ret, j_retv, b_cmp, b_and, b_or, b_not, b_ofi, b_ite, b_true, s_skip, s_set, j_ty, j_lset, j_kill, s_inc, s_fput, j_fput, s_fop, s_aput, j_aput, j_nar, s_aop, s_ret, s_retv, s_go, s_pop, x_linc, x_finc, Value.category, if_icmp.holds, List.flatMap_cons, List.flatMap_nil, List.length_cons, List.length_append, List.length_nil, List.set_cons_succ, List.set_cons_zero, List.getElem?_cons_succ, List.getElem?_cons_zero, List.replicate, e0, e2]
theorem o_S_near {A : AS} {tx : List Nat} {rw : List Int32} {h : jHp} (r : RC A tx rw h) : ∃ h', f_S_near [.ref 1] h = some (some (.int (vNear A).1), h') ∧ RC A tx (vNear A).2 h' ∧ FC h h' := by
  have r0 := r
  obtain ⟨mk, ⟨ca, bl, d, sp⟩, c11, ct, cr, cs⟩ := r
  have hs := mk.1.1
  have w := mk.1.2.1
  obtain ⟨h1, bl1, e1, f1, mv1, d1⟩ := e_Ma_readyWithoutMore mk d
  have cr1 : CRw rw h1 := CRw_fr cr f1 fun a j q => by
    rcases q with z | z
    · have := Wds_lt z; omega
    · omega
  have fin1 := RC_mk r0 d sp f1 (fun a j q => Wrd_ok q) d1 cr1
  have sp1 : CSp ca h1 := ⟨by rw [f1.1.2.1]; exact sp.1, sp.2⟩
  obtain ⟨h2, e2, f2, p2⟩ := e_W_prepare mv1.1 (nI 1)
  have mv2 := MV_g mv1 (FG_Fr (U := fun _ _ => False) f2) fun a j q => q.1
  obtain ⟨p7, p8, p9, p10, p12, pl⟩ := p2
  have i2 : InN A h2 (23, 0) h2 := ⟨mv2, pl, p7, p9, by rw [p10]; rfl, Nat.le_refl _, Fr_refl _ _⟩
  obtain ⟨h3, e3, i3⟩ := e_W_walk (A := A) (mv := fun _ => 0) (arN A) (InN A h2) (fun s h i => ⟨i.1, i.2.1⟩) (s := (23, 0)) (fun pre S post s' h _ _ oS i => e_W_arrN oS i) i2
  have hnr := near_ok w
  generalize vst (arN A) (wk A (fun _ => 0) (lvL A (aNb A)) 0) (23, 0) = v at *
  obtain ⟨b, s⟩ := v
  simp only at e3 i3 hnr
  have hv : vNear A = (nI s.1, [nI s.2]) := by unfold vNear; rw [hnr]
  rw [hv]
  obtain ⟨mv3, lv3, g7, g9, g10, h23, f3⟩ := i3
  have f23 := Fr_trans f2 f3
  have hs1 := mv1.1.1.1
  have hs2 := mv2.1.1.1
  have hs3 := mv3.1.1.1
  have cr3 : CRw rw h3 := CRw_fr cr1 f23 fun a j q => by unfold Wpr at q; omega
  have d3 : DK A ca bl1 h3 := DK_fr d1 f23 (fun a j q => Wpr_cC q) fun a j k hk q z => by
    have := Wdk_lt hk z
    unfold Wpr at q
    omega
  have fin3 := RC_mk fin1.1 d1 sp1 f23 (fun a j q => Wpr_ok q) d3 cr3
  obtain ⟨h4, e4, f4, c4⟩ := e_R_empty hs3
  have hs4 := Fr_shape hs3 f4
  obtain ⟨h5, e5, f5, c5⟩ := e_R_add hs4 c4 (by decide) (nI s.2)
  have hs5 := Fr_shape hs4 f5
  have fin5 := RC_90 fin3.1 (Fr_trans f4 f5) c5
  refine ⟨h5, ?_, fin5.1, FC_trans fin1.2 (FC_trans fin3.2 fin5.2)⟩
  have k10 : hI h4 73 10 = nI s.2 := by rw [Fr_I f4 fun q => by unfold W90 at q; omega]; exact g10
  have k9 : hI h5 73 9 = nI s.1 := by rw [Fr_I (Fr_trans f4 f5) fun q => by unfold W90 at q; omega]; exact g9
  simp only [nI_0] at e3
  generalize nI (slM A (sWt A 0)) = Wz at *
  clear fin1 fin3 fin5 d3 d1 d mv1 mv2 mv3 lv3 pl i2 f23 f1 f2 f3 f4 f5 c4 c5 r0 mk
  cases b <;> simp (disch := first | assumption | omega) [f_S_near, body_S_near, j_meth, j_out, j_rok, j_pad, lg_sl, s_seq_w, isN_inl, isN_inr, s_if, jb, x_c, x_iloc, x_aloc, x_lloc, x_bin, x_un, o_add, o_sub, o_mul, o_and, o_or, o_xor, o_shl, o_shr, o_ushr, o_max, o_min, o_i2b, o_i2c, o_i2l, o_l2i, x_fld, j_fget, x_idx, j_aget, x_len, j_alen, x_ofb, x_ite, xs_nil, xs_cons, x_callv, x_calls, s_callv, s_calls, j_recv, j_ret, j_retv, b_cmp, b_and, b_or, b_not, b_ofi, b_ite, b_true, s_skip, s_set, j_ty, j_lset, j_kill, s_inc, s_fput, j_fput, s_fop, s_aput, j_aput, j_nar, s_aop, s_ret, s_retv, s_go, s_pop, x_linc, x_finc, Value.category, if_icmp.holds, List.flatMap_cons, List.flatMap_nil, List.length_cons, List.length_append, List.length_nil, List.set_cons_succ, List.set_cons_zero, List.getElem?_cons_succ, List.getElem?_cons_zero, List.replicate, ite_and', ite_or', ite_int', nI_leI, nI_ltI, nI_eq, nI_add, nI_1, pk_mul, nI_clamp, n_in', nI_pos', nI_pos, n_m1e, n_01, n_10, sT_1, sR_1_0, sR_1_1, sR_1_2, sR_1_3, sR_1_4, sR_1_5, sR_1_6, sR_1_7, sR_1_8, sR_1_9, sT_2, sT_3, sT_4, sT_5, sT_6, sT_7, sT_8, sT_9, sT_10, sT_11, sT_12, sT_13, sT_14, sR_2_1, sR_2_2, sR_2_3, sR_2_4, sR_2_5, sR_2_6, sR_2_7, sR_2_8, sR_2_9, sR_2_10, sR_2_11, sR_2_12, sT_15, sT_16, sT_17, sT_18, sT_19, sT_20, sT_21, sT_22, sT_23, sR_15_1, sR_15_2, sR_15_3, sR_15_4, sR_15_5, sR_15_6, sR_15_7, sR_15_8, sT_24, sT_25, sT_26, sT_27, sT_28, sT_29, sR_24_1, sR_24_2, sR_24_3, sR_24_4, sR_24_5, sT_71, sT_72, sR_71_0, sR_71_1, sR_71_2, sR_71_3, sR_71_4, sT_73, sT_74, sT_75, sR_73_0, sR_73_1, sR_73_2, sR_73_3, sR_73_4, sR_73_5, sT_84, sT_85, sT_86, sT_87, sR_84_0, sR_84_1, sR_84_2, sR_84_3, sR_84_4, sR_84_5, sT_88, sT_89, sR_88_0, sT_90, sT_91, sR_90_0, e1, e2, nI_0, p8, e3, e4, k10, e5, k9]
