/-! the reference: calls that change who there is -/
theorem RMp_c {A : AS} {h h' : jHp} (r : RMp A h) (e : ∀ a k, (a = 98 ∧ k = 0) ∨ a = 99 → hI h' a k = hI h a k) : RMp A h' := ⟨by rw [e _ _ (by simp)]; exact r.1, fun p hp => by rw [e _ _ (by simp)]; exact r.2 p hp⟩
theorem RMb_c {A : AS} {h h' : jHp} (r : RMb A h) (e : ∀ a k, (a = 98 ∧ (k = 2 ∨ k = 3)) ∨ (100 ≤ a ∧ a ≤ 104) → hI h' a k = hI h a k) : RMb A h' := ⟨by rw [e _ _ (by simp)]; exact r.1, by rw [e _ _ (by simp)]; exact r.2.1, fun b hb => by rw [e 100 _ (by simp), e 101 _ (by simp), e 102 _ (by simp), e 103 _ (by simp), e 104 _ (by simp)]; exact r.2.2 b hb⟩
theorem RMl_c {A : AS} {h h' : jHp} (r : RMl A h) (e : ∀ a k, a = 105 ∨ a = 106 → hI h' a k = hI h a k) : RMl A h' := fun p hp => ⟨by rw [e _ _ (by simp)]; exact (r p hp).1, fun k hk => by rw [e _ _ (by simp)]; exact (r p hp).2 k hk⟩
theorem RMc_c {A : AS} {h h' : jHp} (r : RMc A h) (e : ∀ a k, (a = 98 ∧ k = 11) ∨ (107 ≤ a ∧ a ≤ 111) → hI h' a k = hI h a k) : RMc A h' := ⟨by rw [e _ _ (by simp)]; exact r.1, fun c hc => by rw [e _ _ (by simp), e _ _ (by simp)]; exact r.2.1 c hc, fun c hc => ⟨by rw [e _ _ (by simp)]; exact (r.2.2 c hc).1, fun k hk => by rw [e _ _ (by simp), e _ _ (by simp)]; exact (r.2.2 c hc).2 k hk⟩⟩
theorem RMch_c {A : AS} {h h' : jHp} (r : RMch A h) (e : ∀ a k, 112 ≤ a → a ≤ 123 → hI h' a k = hI h a k) : RMch A h' := by
  intro f hf
  have q := r f hf
  cases hC : aCh A f with
  | none =>
    rw [hC] at q
    exact ⟨by rw [e _ _ (by decide) (by decide)]; exact q.1, by rw [e _ _ (by decide) (by decide)]; exact q.2.1, by rw [e _ _ (by decide) (by decide)]; exact q.2.2⟩
  | some C =>
    rw [hC] at q
    obtain ⟨r0, r1, r2, ⟨r3, r4⟩, ⟨r5, r6⟩, ⟨r7, r8⟩, ⟨r9, r10⟩⟩ := q
    exact ⟨by rw [e _ _ (by decide) (by decide)]; exact r0, by rw [e _ _ (by decide) (by decide)]; exact r1, by rw [e _ _ (by decide) (by decide)]; exact r2, ⟨by rw [e _ _ (by decide) (by decide)]; exact r3, fun k hk => by rw [e _ _ (by decide) (by decide)]; exact r4 k hk⟩, ⟨by rw [e _ _ (by decide) (by decide)]; exact r5, fun k hk => by rw [e _ _ (by decide) (by decide), e _ _ (by decide) (by decide)]; exact r6 k hk⟩, ⟨by rw [e _ _ (by decide) (by decide)]; exact r7, fun k hk => by rw [e _ _ (by decide) (by decide)]; exact r8 k hk⟩, ⟨by rw [e _ _ (by decide) (by decide)]; exact r9, fun k hk => by rw [e _ _ (by decide) (by decide)]; exact r10 k hk⟩⟩
def vPerson (A : AS) (k : Int32) : Int32 × AS := if j_in k 4 ∧ aNp A ≠ 7 then (nI (aNp A), aPers A k.toNatClampNeg) else (-1, A)
theorem WF_pers {A : AS} (w : WF A) {k : Nat} (hk : k < 4) (h7 : aNp A ≠ 7) : WF (aPers A k) := by
  obtain ⟨⟨w1, w1'⟩, w2, ⟨w3, w3', w3''⟩, w4, ⟨w5, w5', w5''⟩, w6, w7⟩ := w
  refine ⟨⟨by show aNp A + 1 ≤ 7; omega, fun p hp => ?_⟩, w2, ⟨w3, fun b hb => ?_, w3''⟩, fun p => ?_, ⟨w5, fun c hc => ?_, w5''⟩, w6, w7⟩
  · show updN (aKd A) (aNp A) k p < 4
    unfold updN
    split
    · exact hk
    · have hp' : p < aNp A + 1 := hp
      exact w1' p (by omega)
  · obtain ⟨a, b⟩ := w3' b hb
    exact ⟨by show aPe A _ < aNp A + 1; omega, b⟩
  · obtain ⟨a, b⟩ := w4 p
    refine ⟨fun q => a ?_, b⟩
    have q' : aNp A + 1 ≤ p := q
    omega
  · obtain ⟨a, b, c'⟩ := w5' c hc
    exact ⟨by show aC1 A c < aNp A + 1; omega, by show aC2 A c < aNp A + 1; omega, c'⟩
theorem o_M_person {A : AS} {tx : List Nat} {rw : List Int32} {h : jHp} (r : RMX A tx rw h) (x : Int32) : ∃ h', f_M_person [.ref 98, .int x] h = some (some (.int (vPerson A x).1), h') ∧ RMX (vPerson A x).2 tx rw h' ∧ Fr WM h h' := by
  have hs := r.1.1
  have w := r.1.2.1
  have hn := w.1.1
  have e := e_M_person h hs x (aNp A) hn r.1.2.2.1.1
  have hji : (0 ≤ x ∧ x ≤ nI 3) ↔ j_in x 4 = true := by
    have := j_in_le (x := x) (n := 4) (by decide)
    have h3 : nI 4 - nI 1 = nI 3 := by decide
    rw [h3] at this
    exact this
  unfold vPerson
  by_cases hc : j_in x 4 = true ∧ aNp A ≠ 7
  · rw [if_pos hc]
    rw [if_pos ⟨hji.mpr hc.1, hc.2⟩] at e
    obtain ⟨k, hk, rfl⟩ := j_in_ex hc.1 (by decide)
    rw [nI_clamp (show k < 2 ^ 31 by omega)]
    refine ⟨_, e, ?_⟩
    have f1 : Fr (fun a k => (a = 98 ∧ (k = 33 ∨ k = 0)) ∨ (a = 99 ∧ k = aNp A)) h (hSetI (hSetI (hSetI h 98 33 0) 99 (aNp A) (nI k)) 98 0 (nI (aNp A + 1))) := Fr_trans (Fr_trans (Fr_set _ (Or.inl ⟨rfl, Or.inl rfl⟩)) (Fr_set _ (Or.inr ⟨rfl, rfl⟩))) (Fr_set _ (Or.inl ⟨rfl, Or.inr rfl⟩))
    have c0 : hI (hSetI (hSetI (hSetI h 98 33 0) 99 (aNp A) (nI k)) 98 0 (nI (aNp A + 1))) 98 0 = nI (aNp A + 1) := by rw [hI_setI, if_pos ⟨rfl, rfl⟩]
    have c1 : hI (hSetI (hSetI (hSetI h 98 33 0) 99 (aNp A) (nI k)) 98 0 (nI (aNp A + 1))) 99 (aNp A) = nI k := by rw [hI_setI, if_neg (by omega), hI_setI, if_pos ⟨rfl, rfl⟩]
    generalize hSetI (hSetI (hSetI h 98 33 0) 99 (aNp A) (nI k)) 98 0 (nI (aNp A + 1)) = h1 at *
    obtain ⟨-, -, rp, rb, rl, rc, rch⟩ := r.1
    refine RMX_new r f1 (by unfold cT; intro a k; omega) ⟨Fr_shape hs f1, WF_pers w hk hc.2, ⟨c0, fun p hp => ?_⟩, RMb_c rb (fun a k q => Fr_I f1 (by omega)), RMl_c rl (fun a k q => Fr_I f1 (by omega)), RMc_c rc (fun a k q => Fr_I f1 (by omega)), RMch_c rch (fun a k q1 q2 => Fr_I f1 (by omega))⟩ (RMT_ag (A := A) w (RMT_fr r.2.1 f1 (by intro a k q; omega)) rfl fun f hf => ⟨Nat.le_refl _, Nat.le_succ _, fun b _ => ⟨rfl, rfl, rfl, rfl, rfl⟩, fun b h1 h2 => absurd h2 (Nat.not_lt.mpr h1), fun p hp => updN_ne _ _ (by omega), rfl⟩)
    have hp' : p < aNp A + 1 := hp
    show hI h1 99 p = nI (updN (aKd A) (aNp A) k p)
    by_cases e : p = aNp A
    · rw [e, updN_eq]; exact c1
    · rw [updN_ne _ _ e, Fr_I f1 (by omega)]; exact rp.2 p (by omega)
  · rw [if_neg hc]
    rw [if_neg (fun q => hc ⟨hji.mp q.1, q.2⟩)] at e
    refine ⟨_, e, ?_⟩
    have := op_fin r (op_33 r) (RMX_33 r (nI 0)).2.2.2.1
    rw [nI_0] at this
    exact this
def vOffice (A : AS) : Int32 × AS := if aNo A = 4 then (-1, A) else (nI (aNo A), aOffi A)
theorem o_M_office {A : AS} {tx : List Nat} {rw : List Int32} {h : jHp} (r : RMX A tx rw h) : ∃ h', f_M_office [.ref 98] h = some (some (.int (vOffice A).1), h') ∧ RMX (vOffice A).2 tx rw h' ∧ Fr WM h h' := by
  have hs := r.1.1
  have w := r.1.2.1
  have hno := w.2.1
  have q2 := r.1.2.2.2.1.1
  have m0 := op_33 r
  have r0 := RMX_33 r (nI 0)
  have hs0 := r0.1.1
  have q2' := r0.1.2.2.2.1.1
  unfold vOffice
  by_cases h4 : aNo A = 4
  · rw [if_pos h4]
    rw [h4] at q2'
    refine ⟨_, ?_, op_fin r m0 r0.2.2.2.1⟩
    generalize hh0 : hSetI h 98 33 (nI 0) = h0 at *
    simp (disch := first | assumption | omega) [f_M_office, body_M_office, j_meth, j_out, j_rok, j_pad, lg_sl, s_seq_w, isN_inl, isN_inr, s_if, jb, x_c, x_iloc, x_aloc, x_lloc, x_bin, x_un, o_add, o_sub, o_mul, o_and, o_or, o_xor, o_shl, o_shr, o_ushr, o_max, o_min, o_i2b, o_i2c, o_i2l, o_l2i, x_fld, j_fget, x_idx, j_aget, x_len, j_alen, x_ofb, x_ite, xs_nil, xs_cons, x_callv, x_calls, s_callv, s_calls, j_recv, j_ret, j_retv, b_cmp, b_and, b_or, b_not, b_ofi, b_ite, b_true, s_skip, s_set, j_ty, j_lset, j_kill, s_inc, s_fput, j_fput, s_fop, s_aput, j_aput, j_nar, s_aop, s_ret, s_retv, s_go, s_pop, x_linc, x_finc, Value.category, if_icmp.holds, List.flatMap_cons, List.flatMap_nil, List.length_cons, List.length_append, List.length_nil, List.set_cons_succ, List.set_cons_zero, List.getElem?_cons_succ, List.getElem?_cons_zero, List.replicate, ite_and', ite_or', ite_int', nI_leI, nI_ltI, nI_eq, nI_add, nI_1, pk_mul, nI_clamp, n_in', nI_pos', nI_pos, n_m1e, n_01, n_10, sT_98, sT_99, sT_100, sT_101, sT_102, sT_103, sT_104, sT_105, sT_106, sT_107, sT_108, sT_109, sT_110, sT_111, sT_112, sT_113, sT_114, sT_115, sT_116, sT_117, sT_118, sT_119, sT_120, sT_121, sT_122, sT_123, sT_124, sT_125, sT_126, sT_127, sT_128, sT_129, sT_130, sT_131, sT_132, sT_133, sT_134, sT_135, sT_136, sT_137, sT_138, sT_139, sT_140, sR_98_1, sR_98_4, sR_98_5, sR_98_6, sR_98_7, sR_98_8, sR_98_9, sR_98_10, sR_98_12, sR_98_13, sR_98_14, sR_98_15, sR_98_16, sR_98_17, sR_98_18, sR_98_19, sR_98_20, sR_98_21, sR_98_22, sR_98_23, sR_98_24, sR_98_25, sR_98_26, sR_98_27, sR_98_28, sR_98_29, sR_98_31, sR_98_34, sR_98_35, sR_98_36, sR_98_42, sR_98_44, sR_98_45, sR_98_47, sR_98_49, sR_98_51, sR_98_56, sR_98_58, sR_98_62, sR_98_65, sR_98_66, sR_98_69, hh0, q2']
  · rw [if_neg h4]
    have f1 : Fr (fun a k => a = 98 ∧ (k = 33 ∨ k = 2 ∨ k = 37)) h (hSetI (hSetI (hSetI h 98 33 (nI 0)) 98 2 (nI (aNo A + 1))) 98 37 (nI 0)) := Fr_trans (Fr_trans (Fr_set _ ⟨rfl, Or.inl rfl⟩) (Fr_set _ ⟨rfl, Or.inr (Or.inl rfl)⟩)) (Fr_set _ ⟨rfl, Or.inr (Or.inr rfl)⟩)
    have c2 : hI (hSetI (hSetI (hSetI h 98 33 (nI 0)) 98 2 (nI (aNo A + 1))) 98 37 (nI 0)) 98 2 = nI (aNo A + 1) := by rw [hI_setI, if_neg (by omega), hI_setI, if_pos ⟨rfl, rfl⟩]
    have c37 : hI (hSetI (hSetI (hSetI h 98 33 (nI 0)) 98 2 (nI (aNo A + 1))) 98 37 (nI 0)) 98 37 = 0 := by rw [hI_setI, if_pos ⟨rfl, rfl⟩]; rfl
    have hsub : nI (aNo A + 1) - nI 1 = nI (aNo A) := pk_sub (by omega)
    refine ⟨hSetI (hSetI (hSetI h 98 33 (nI 0)) 98 2 (nI (aNo A + 1))) 98 37 (nI 0), ?_, ?_⟩
    · have hs1 : Shape (hSetI (hSetI h 98 33 (nI 0)) 98 2 (nI (aNo A + 1))) := Fr_shape (W := fun a k => a = 98) hs (Fr_trans (Fr_set _ rfl) (Fr_set _ rfl))
      have hs2 := Fr_shape hs f1
      have hz : (nI 0 = (0 : Int32)) = True := by rw [nI_0]; simp
      generalize hh0 : hSetI h 98 33 (nI 0) = h0 at *
      generalize hh1 : hSetI h0 98 2 (nI (aNo A + 1)) = h1 at *
      generalize hh2 : hSetI h1 98 37 (nI 0) = h2 at *
      simp (disch := first | assumption | omega) [f_M_office, body_M_office, j_meth, j_out, j_rok, j_pad, lg_sl, s_seq_w, isN_inl, isN_inr, s_if, jb, x_c, x_iloc, x_aloc, x_lloc, x_bin, x_un, o_add, o_sub, o_mul, o_and, o_or, o_xor, o_shl, o_shr, o_ushr, o_max, o_min, o_i2b, o_i2c, o_i2l, o_l2i, x_fld, j_fget, x_idx, j_aget, x_len, j_alen, x_ofb, x_ite, xs_nil, xs_cons, x_callv, x_calls, s_callv, s_calls, j_recv, j_ret, j_retv, b_cmp, b_and, b_or, b_not, b_ofi, b_ite, b_true, s_skip, s_set, j_ty, j_lset, j_kill, s_inc, s_fput, j_fput, s_fop, s_aput, j_aput, j_nar, s_aop, s_ret, s_retv, s_go, s_pop, x_linc, x_finc, Value.category, if_icmp.holds, List.flatMap_cons, List.flatMap_nil, List.length_cons, List.length_append, List.length_nil, List.set_cons_succ, List.set_cons_zero, List.getElem?_cons_succ, List.getElem?_cons_zero, List.replicate, ite_and', ite_or', ite_int', nI_leI, nI_ltI, nI_eq, nI_add, nI_1, pk_mul, nI_clamp, n_in', nI_pos', nI_pos, n_m1e, n_01, n_10, sT_98, sT_99, sT_100, sT_101, sT_102, sT_103, sT_104, sT_105, sT_106, sT_107, sT_108, sT_109, sT_110, sT_111, sT_112, sT_113, sT_114, sT_115, sT_116, sT_117, sT_118, sT_119, sT_120, sT_121, sT_122, sT_123, sT_124, sT_125, sT_126, sT_127, sT_128, sT_129, sT_130, sT_131, sT_132, sT_133, sT_134, sT_135, sT_136, sT_137, sT_138, sT_139, sT_140, sR_98_1, sR_98_4, sR_98_5, sR_98_6, sR_98_7, sR_98_8, sR_98_9, sR_98_10, sR_98_12, sR_98_13, sR_98_14, sR_98_15, sR_98_16, sR_98_17, sR_98_18, sR_98_19, sR_98_20, sR_98_21, sR_98_22, sR_98_23, sR_98_24, sR_98_25, sR_98_26, sR_98_27, sR_98_28, sR_98_29, sR_98_31, sR_98_34, sR_98_35, sR_98_36, sR_98_42, sR_98_44, sR_98_45, sR_98_47, sR_98_49, sR_98_51, sR_98_56, sR_98_58, sR_98_62, sR_98_65, sR_98_66, sR_98_69, hh0, q2', h4, hh1, hz, hh2, c2, hsub]
    · generalize hSetI (hSetI (hSetI h 98 33 (nI 0)) 98 2 (nI (aNo A + 1))) 98 37 (nI 0) = h1 at *
      obtain ⟨-, -, rp, rb, rl, rc, rch⟩ := r.1
      obtain ⟨w1, w2, ⟨w3, w3', w3''⟩, w4, w5, w6, w7⟩ := w
      have w' : WF (aOffi A) := ⟨w1, by show aNo A + 1 ≤ 4; omega, ⟨w3, fun b hb => ⟨(w3' b hb).1, by show aOf A b < aNo A + 1; have := (w3' b hb).2.1; omega, (w3' b hb).2.2⟩, w3''⟩, w4, w5, fun f => ⟨fun q => (w6 f).1 (by have q' : aNo A + 1 ≤ f := q; omega), (w6 f).2⟩, w7⟩
      exact RMX_new r f1 (by unfold cT; intro a k; omega) ⟨Fr_shape hs f1, w', RMp_c rp (fun a k q => Fr_I f1 (by omega)), ⟨c2, by rw [Fr_I f1 (by omega)]; exact rb.2.1, fun b hb => by rw [Fr_I f1 (by omega), Fr_I f1 (by omega), Fr_I f1 (by omega), Fr_I f1 (by omega), Fr_I f1 (by omega)]; exact rb.2.2 b hb⟩, RMl_c rl (fun a k q => Fr_I f1 (by omega)), RMc_c rc (fun a k q => Fr_I f1 (by omega)), RMch_c rch (fun a k q1 q2 => Fr_I f1 (by omega))⟩ (Or.inl c37)
