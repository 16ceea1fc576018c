def mo (A : AS) (f : Nat) : Nat := match aCh A f with
  | none => 0
  | some C => cMost C
def okV (A : AS) (f v : Nat) : Bool := v == 0 || (match aCh A f with
  | none => false
  | some C => decide (cMost C + v ≤ 8))
def shF : Nat → AS → Nat → Nat → Option (List Nat)
  | 0, A, _, left => if left = 0 ∧ (genL A (aNp A) 0 0).any (sStd A) = true then some [] else none
  | n + 1, A, f, left => match fst1 (fun v => okV A f v && (shF n (aMore A f v) (f + 1) (left - v)).isSome) (left + 1) with
    | some v => (shF n (aMore A f v) (f + 1) (left - v)).map (fun l => v :: l)
    | none => none
theorem shF_len : ∀ n A f left l, shF n A f left = some l → l.length = n := by
  intro n
  induction n with
  | zero => intro A f left l h; unfold shF at h; split at h
            · cases h; rfl
            · cases h
  | succ n ih =>
    intro A f left l h
    unfold shF at h
    split at h
    · rename_i v hv
      cases hq : shF n (aMore A f v) (f + 1) (left - v) with
      | none => rw [hq] at h; cases h
      | some l' => rw [hq] at h; cases h; simp [ih _ _ _ _ hq]
    · cases h
theorem mo_h {A : AS} {h : jHp} (k : RMK A h) {f : Nat} (hf : f < 4) : hI h 113 f = nI (mo A f) := by
  have := k.2.2.2.2.2.2 f hf
  unfold mo
  cases hC : aCh A f with
  | none => rw [hC] at this; exact this.2.2
  | some C => rw [hC] at this; exact this.2.1
theorem mo_le {A : AS} (w : WF A) (f : Nat) : mo A f ≤ 999 := by
  unfold mo
  cases hC : aCh A f with
  | none => simp
  | some C => exact ((w.2.2.2.2.2.1 f).2 C hC).1
theorem told_h {A : AS} {h : jHp} (k : RMK A h) {f : Nat} (hf : f < 4) : hI h 112 f = if (aCh A f).isSome then 1 else 0 := by
  have := k.2.2.2.2.2.2 f hf
  cases hC : aCh A f with
  | none => rw [hC] at this; exact this.1
  | some C => rw [hC] at this; exact this.1
theorem RMK_more {A : AS} {h : jHp} (k : RMK A h) {f v : Nat} (hf : f < aNo A) (hv : okV A f v = true) : RMK (aMore A f v) (hSetI h 113 f (nI (mo A f + v))) := by
  obtain ⟨i1, i2, i3, i4, i5, i7⟩ := aMore_id A f v
  have hch := aMore_ch A f v
  have hno := k.2.1.2.1
  have hs' : Shape (hSetI h 113 f (nI (mo A f + v))) := Fr_shape (W := fun a _ => a = 113) k.1 (Fr_set _ rfl)
  have hne : ∀ a i, a ≠ 113 → hI (hSetI h 113 f (nI (mo A f + v))) a i = hI h a i := fun a i q => by rw [hI_setI, if_neg (by omega)]
  obtain ⟨hs, w, rp, rb, rl, rc, rch⟩ := k
  have w' : WF (aMore A f v) := by
    refine WF_ch w i1 i2 i3 i4 i5 i7 fun g => ?_
    have hno' : aNo (aMore A f v) = aNo A := i2
    rw [hch, hno']
    by_cases e : g = f
    · rw [if_pos e]
      refine ⟨fun q => by omega, fun C hC => ?_⟩
      cases hA : aCh A f with
      | none => rw [hA] at hC; cases hC
      | some D =>
        rw [hA] at hC
        cases hC
        have hD := (w.2.2.2.2.2.1 f).2 D hA
        unfold okV at hv
        rw [hA] at hv
        simp only [Bool.or_eq_true, beq_iff_eq, decide_eq_true_eq] at hv
        have hle : cMost D + v ≤ 999 := by
          have := hD.1
          rcases hv with rfl | hv
          · omega
          · omega
        exact ⟨hle, hD.2⟩
    · rw [if_neg e]
      exact w.2.2.2.2.2.1 g
  have e0 : aNp (aMore A f v) = aNp A := by show (aMore A f v).1.1 = A.1.1; rw [i1]
  refine ⟨hs', w', ?_, ?_, ?_, ?_, ?_⟩
  · have : RMp (aMore A f v) h := by
      unfold RMp aNp aKd
      rw [i1]
      exact rp
    exact ⟨by rw [hne _ _ (by decide)]; exact this.1, fun p hp => by rw [hne _ _ (by decide)]; exact this.2 p hp⟩
  · have : RMb (aMore A f v) h := by
      unfold RMb aNo aNb aPe aOf aPa aYe aTo
      rw [i2, i3]
      exact rb
    exact ⟨by rw [hne _ _ (by decide)]; exact this.1, by rw [hne _ _ (by decide)]; exact this.2.1, fun b hb => by rw [hne _ _ (by decide), hne _ _ (by decide), hne _ _ (by decide), hne _ _ (by decide), hne _ _ (by decide)]; exact this.2.2 b hb⟩
  · have : RMl (aMore A f v) h := by
      unfold RMl aLl
      rw [i4]
      exact rl
    intro p hp
    exact ⟨by rw [hne _ _ (by decide)]; exact (this p hp).1, fun q hq => by rw [hne _ _ (by decide)]; exact (this p hp).2 q hq⟩
  · have : RMc (aMore A f v) h := by
      unfold RMc aNc aC1 aC2 aPl
      rw [i5]
      exact rc
    refine ⟨by rw [hne _ _ (by decide)]; exact this.1, fun c hc => by rw [hne _ _ (by decide), hne _ _ (by decide)]; exact this.2.1 c hc, fun c hc => ⟨by rw [hne _ _ (by decide)]; exact (this.2.2 c hc).1, fun q hq => by rw [hne _ _ (by decide), hne _ _ (by decide)]; exact (this.2.2 c hc).2 q hq⟩⟩
  · intro g hg
    have r := rch g hg
    rw [hch]
    by_cases e : g = f
    · subst e
      rw [if_pos rfl]
      cases hA : aCh A g with
      | none =>
        have hmo : mo A g = 0 := by unfold mo; rw [hA]
        rw [hA] at r
        unfold okV at hv
        rw [hA] at hv
        have hv0 : v = 0 := by simpa using hv
        subst hv0
        simp only [Option.map_none]
        exact ⟨by rw [hne _ _ (by decide)]; exact r.1, by rw [hne _ _ (by decide)]; exact r.2.1, by rw [hI_setI, if_pos ⟨rfl, rfl⟩, hmo]; rfl⟩
      | some D =>
        have hmo : mo A g = cMost D := by unfold mo; rw [hA]
        rw [hA] at r
        obtain ⟨r0, r1, r2, ⟨r3, r4⟩, ⟨r5, r6⟩, ⟨r7, r8⟩, ⟨r9, r10⟩⟩ := r
        simp only [Option.map_some]
        refine ⟨by rw [hne _ _ (by decide)]; exact r0, by rw [hI_setI, if_pos ⟨rfl, rfl⟩, hmo]; rfl, by rw [hne _ _ (by decide)]; exact r2, ⟨by rw [hne _ _ (by decide)]; exact r3, fun k hk => by rw [hne _ _ (by decide)]; exact r4 k hk⟩, ⟨by rw [hne _ _ (by decide)]; exact r5, fun k hk => by rw [hne _ _ (by decide), hne _ _ (by decide)]; exact r6 k hk⟩, ⟨by rw [hne _ _ (by decide)]; exact r7, fun k hk => by rw [hne _ _ (by decide)]; exact r8 k hk⟩, ⟨by rw [hne _ _ (by decide)]; exact r9, fun k hk => by rw [hne _ _ (by decide)]; exact r10 k hk⟩⟩
    · rw [if_neg e]
      cases hA : aCh A g with
      | none =>
        rw [hA] at r
        exact ⟨by rw [hne _ _ (by decide)]; exact r.1, by rw [hne _ _ (by decide)]; exact r.2.1, by rw [hI_setI, if_neg (by omega)]; exact r.2.2⟩
      | some D =>
        rw [hA] at r
        obtain ⟨r0, r1, r2, ⟨r3, r4⟩, ⟨r5, r6⟩, ⟨r7, r8⟩, ⟨r9, r10⟩⟩ := r
        refine ⟨by rw [hne _ _ (by decide)]; exact r0, by rw [hI_setI, if_neg (by omega)]; exact r1, by rw [hne _ _ (by decide)]; exact r2, ⟨by rw [hne _ _ (by decide)]; exact r3, fun k hk => by rw [hne _ _ (by decide)]; exact r4 k hk⟩, ⟨by rw [hne _ _ (by decide)]; exact r5, fun k hk => by rw [hne _ _ (by decide), hne _ _ (by decide)]; exact r6 k hk⟩, ⟨by rw [hne _ _ (by decide)]; exact r7, fun k hk => by rw [hne _ _ (by decide)]; exact r8 k hk⟩, ⟨by rw [hne _ _ (by decide)]; exact r9, fun k hk => by rw [hne _ _ (by decide)]; exact r10 k hk⟩⟩
def Wsh (f a k : Nat) : Prop := Wgt a k ∨ (a = 140 ∧ f ≤ k)
theorem Wsh_cM (f : Nat) : ∀ a k, cM a k → ¬ Wsh f a k := by
  unfold cM Wsh Wgt Wjd Wmk
  intro a k h1 h2
  omega
theorem e_M_share : ∀ n m, n < m → ∀ (A : AS) (f left : Nat) (h : jHp), f + n = aNo A → left ≤ 3 → RMK A h →
    ∃ h', f_M_share m [.ref 98, .int (nI f), .int (nI left)] h = some (some (.int (if (shF n A f left).isSome then 1 else 0)), h') ∧ Fr (Wsh f) h h' ∧ ∀ l, shF n A f left = some l → ∀ k, k < l.length → hI h' 140 (f + k) = nI (l.getD k 0) := by
  intro n
  induction n with
  | zero =>
    intro m hm A f left h hf hl k
    cases m with
    | zero => omega
    | succ m =>
    have hs := k.1
    have w := k.2.1
    have hn := w.1.1
    have hno := w.2.1
    have q2 := k.2.2.2.1.1
    have hfn : aNo A = f := by omega
    rw [hfn] at q2
    by_cases hl0 : left = 0
    · subst hl0
      have f1 : Fr (fun a k => a = 98 ∧ (k = 37 ∨ k = 64)) h (hSetI (hSetI h 98 37 (nI 0)) 98 64 (nI 0)) := Fr_trans (Fr_set _ ⟨rfl, Or.inl rfl⟩) (Fr_set _ ⟨rfl, Or.inr rfl⟩)
      have k1 := RMK_fr k f1 (by unfold cM; intro a k; omega)
      have t1 : RMT A (hSetI (hSetI h 98 37 (nI 0)) 98 64 (nI 0)) := Or.inl (by rw [hI_setI, if_neg (by omega), hI_setI, if_pos ⟨rfl, rfl⟩]; rfl)
      have g1 : hI (hSetI (hSetI h 98 37 (nI 0)) 98 64 (nI 0)) 98 64 = nI (false : Bool).toNat := by rw [hI_setI, if_pos ⟨rfl, rfl⟩]; rfl
      have hs1 := k1.1
      generalize hh1 : hSetI (hSetI h 98 37 (nI 0)) 98 64 (nI 0) = h1 at *
      obtain ⟨h2, e2, m2, -, g2⟩ := e_M_goThrough (A := A) (h0 := h1) true (aNp A) 10 (by omega) 0 0 h1 [] false (by omega) (by decide) (MW_refl k1 t1) (fun q => by cases q) g1 (fun q => by cases q)
      have hs2 := m2.2.1.1
      have hh1' : hSetI (hSetI h 98 37 0) 98 64 0 = h1 := by rw [← hh1, nI_0]
      have hs0 : Shape (hSetI h 98 37 0) := Fr_shape (W := fun a k => a = 98) hs (Fr_set _ rfl)
      refine ⟨h2, ?_, Fr_trans (Fr_mono f1 (by unfold Wsh Wgt Wjd Wmk; intro a k; omega)) (Fr_mono m2.1 fun a k q => Or.inl q), fun l _ k hk => ?_⟩
      · have hsf : (shF 0 A f 0).isSome = (genL A (aNp A) 0 0).any (sStd A) := by
          unfold shF
          cases (genL A (aNp A) 0 0).any (sStd A) <;> simp
        rw [hsf]
        rw [Bool.false_or] at g2
        simp only [Bool.toNat_true, nI_0] at e2
        generalize (genL A (aNp A) 0 0).any (sStd A) = z at *
        cases z with
        | true =>
          simp only [n_11] at e2
          simp (disch := first | assumption | omega) [f_M_share, body_M_share, j_meth, j_out, j_rok, j_pad, lg_sl, s_seq_w, isN_inl, isN_inr, s_if, jb, x_c, x_iloc, x_aloc, x_lloc, x_bin, x_un, o_add, o_sub, o_mul, o_and, o_or, o_xor, o_shl, o_shr, o_ushr, o_max, o_min, o_i2b, o_i2c, o_i2l, o_l2i, x_fld, j_fget, x_idx, j_aget, x_len, j_alen, x_ofb, x_ite, xs_nil, xs_cons, x_callv, x_calls, s_callv, s_calls, j_recv, j_ret, j_retv, b_cmp, b_and, b_or, b_not, b_ofi, b_ite, b_true, s_skip, s_set, j_ty, j_lset, j_kill, s_inc, s_fput, j_fput, s_fop, s_aput, j_aput, j_nar, s_aop, s_ret, s_retv, s_go, s_pop, x_linc, x_finc, Value.category, if_icmp.holds, List.flatMap_cons, List.flatMap_nil, List.length_cons, List.length_append, List.length_nil, List.set_cons_succ, List.set_cons_zero, List.getElem?_cons_succ, List.getElem?_cons_zero, List.replicate, ite_and', ite_or', ite_int', nI_leI, nI_ltI, nI_eq, nI_add, nI_1, pk_mul, nI_clamp, n_in', nI_pos', nI_pos, n_m1e, n_01, n_10, sT_98, sT_99, sT_100, sT_101, sT_102, sT_103, sT_104, sT_105, sT_106, sT_107, sT_108, sT_109, sT_110, sT_111, sT_112, sT_113, sT_114, sT_115, sT_116, sT_117, sT_118, sT_119, sT_120, sT_121, sT_122, sT_123, sT_124, sT_125, sT_126, sT_127, sT_128, sT_129, sT_130, sT_131, sT_132, sT_133, sT_134, sT_135, sT_136, sT_137, sT_138, sT_139, sT_140, sR_98_1, sR_98_4, sR_98_5, sR_98_6, sR_98_7, sR_98_8, sR_98_9, sR_98_10, sR_98_12, sR_98_13, sR_98_14, sR_98_15, sR_98_16, sR_98_17, sR_98_18, sR_98_19, sR_98_20, sR_98_21, sR_98_22, sR_98_23, sR_98_24, sR_98_25, sR_98_26, sR_98_27, sR_98_28, sR_98_29, sR_98_31, sR_98_34, sR_98_35, sR_98_36, sR_98_42, sR_98_44, sR_98_45, sR_98_47, sR_98_49, sR_98_51, sR_98_56, sR_98_58, sR_98_62, sR_98_65, sR_98_66, sR_98_69, q2, nI_0, hh1', e2, g2, n_11]
        | false => simp (disch := first | assumption | omega) [f_M_share, body_M_share, j_meth, j_out, j_rok, j_pad, lg_sl, s_seq_w, isN_inl, isN_inr, s_if, jb, x_c, x_iloc, x_aloc, x_lloc, x_bin, x_un, o_add, o_sub, o_mul, o_and, o_or, o_xor, o_shl, o_shr, o_ushr, o_max, o_min, o_i2b, o_i2c, o_i2l, o_l2i, x_fld, j_fget, x_idx, j_aget, x_len, j_alen, x_ofb, x_ite, xs_nil, xs_cons, x_callv, x_calls, s_callv, s_calls, j_recv, j_ret, j_retv, b_cmp, b_and, b_or, b_not, b_ofi, b_ite, b_true, s_skip, s_set, j_ty, j_lset, j_kill, s_inc, s_fput, j_fput, s_fop, s_aput, j_aput, j_nar, s_aop, s_ret, s_retv, s_go, s_pop, x_linc, x_finc, Value.category, if_icmp.holds, List.flatMap_cons, List.flatMap_nil, List.length_cons, List.length_append, List.length_nil, List.set_cons_succ, List.set_cons_zero, List.getElem?_cons_succ, List.getElem?_cons_zero, List.replicate, ite_and', ite_or', ite_int', nI_leI, nI_ltI, nI_eq, nI_add, nI_1, pk_mul, nI_clamp, n_in', nI_pos', nI_pos, n_m1e, n_01, n_10, sT_98, sT_99, sT_100, sT_101, sT_102, sT_103, sT_104, sT_105, sT_106, sT_107, sT_108, sT_109, sT_110, sT_111, sT_112, sT_113, sT_114, sT_115, sT_116, sT_117, sT_118, sT_119, sT_120, sT_121, sT_122, sT_123, sT_124, sT_125, sT_126, sT_127, sT_128, sT_129, sT_130, sT_131, sT_132, sT_133, sT_134, sT_135, sT_136, sT_137, sT_138, sT_139, sT_140, sR_98_1, sR_98_4, sR_98_5, sR_98_6, sR_98_7, sR_98_8, sR_98_9, sR_98_10, sR_98_12, sR_98_13, sR_98_14, sR_98_15, sR_98_16, sR_98_17, sR_98_18, sR_98_19, sR_98_20, sR_98_21, sR_98_22, sR_98_23, sR_98_24, sR_98_25, sR_98_26, sR_98_27, sR_98_28, sR_98_29, sR_98_31, sR_98_34, sR_98_35, sR_98_36, sR_98_42, sR_98_44, sR_98_45, sR_98_47, sR_98_49, sR_98_51, sR_98_56, sR_98_58, sR_98_62, sR_98_65, sR_98_66, sR_98_69, q2, nI_0, hh1', e2, g2]
      · rename_i hsl
        have := shF_len _ _ _ _ _ hsl
        omega
    · refine ⟨h, ?_, Fr_refl _ _, fun l hl k hk => ?_⟩
      · have hsf : (shF 0 A f left).isSome = false := by simp [shF, hl0]
        rw [hsf]
        have hpos : (0 : Int32) < nI left := by rw [← nI_0]; exact (nI_ltI (by omega) (by omega)).mpr (by omega)
        simp (disch := first | assumption | omega) [f_M_share, body_M_share, j_meth, j_out, j_rok, j_pad, lg_sl, s_seq_w, isN_inl, isN_inr, s_if, jb, x_c, x_iloc, x_aloc, x_lloc, x_bin, x_un, o_add, o_sub, o_mul, o_and, o_or, o_xor, o_shl, o_shr, o_ushr, o_max, o_min, o_i2b, o_i2c, o_i2l, o_l2i, x_fld, j_fget, x_idx, j_aget, x_len, j_alen, x_ofb, x_ite, xs_nil, xs_cons, x_callv, x_calls, s_callv, s_calls, j_recv, j_ret, j_retv, b_cmp, b_and, b_or, b_not, b_ofi, b_ite, b_true, s_skip, s_set, j_ty, j_lset, j_kill, s_inc, s_fput, j_fput, s_fop, s_aput, j_aput, j_nar, s_aop, s_ret, s_retv, s_go, s_pop, x_linc, x_finc, Value.category, if_icmp.holds, List.flatMap_cons, List.flatMap_nil, List.length_cons, List.length_append, List.length_nil, List.set_cons_succ, List.set_cons_zero, List.getElem?_cons_succ, List.getElem?_cons_zero, List.replicate, ite_and', ite_or', ite_int', nI_leI, nI_ltI, nI_eq, nI_add, nI_1, pk_mul, nI_clamp, n_in', nI_pos', nI_pos, n_m1e, n_01, n_10, sT_98, sT_99, sT_100, sT_101, sT_102, sT_103, sT_104, sT_105, sT_106, sT_107, sT_108, sT_109, sT_110, sT_111, sT_112, sT_113, sT_114, sT_115, sT_116, sT_117, sT_118, sT_119, sT_120, sT_121, sT_122, sT_123, sT_124, sT_125, sT_126, sT_127, sT_128, sT_129, sT_130, sT_131, sT_132, sT_133, sT_134, sT_135, sT_136, sT_137, sT_138, sT_139, sT_140, sR_98_1, sR_98_4, sR_98_5, sR_98_6, sR_98_7, sR_98_8, sR_98_9, sR_98_10, sR_98_12, sR_98_13, sR_98_14, sR_98_15, sR_98_16, sR_98_17, sR_98_18, sR_98_19, sR_98_20, sR_98_21, sR_98_22, sR_98_23, sR_98_24, sR_98_25, sR_98_26, sR_98_27, sR_98_28, sR_98_29, sR_98_31, sR_98_34, sR_98_35, sR_98_36, sR_98_42, sR_98_44, sR_98_45, sR_98_47, sR_98_49, sR_98_51, sR_98_56, sR_98_58, sR_98_62, sR_98_65, sR_98_66, sR_98_69, q2, hpos, nI_0]
      · have := shF_len _ _ _ _ _ hl
        omega
  | succ n ih =>
    intro m hm A f left h hf hl k
    cases m with
    | zero => omega
    | succ m =>
    have hs := k.1
    have w := k.2.1
    have hn := w.1.1
    have hno := w.2.1
    have q2 := k.2.2.2.1.1
    have hfn : ¬ f = aNo A := by omega
    have hml := mo_le w f
    have hL := loop_wp (lb := 1) (lc := 2) (c := lc_M_share_1 (f_M_share m)) (b := lb_M_share_1 (f_M_share m)) (u := lu_M_share_1 (f_M_share m)) (left + 1)
      (fun v st => ∃ h' j, st = ([.ref 98, .int (nI f), .int (nI left), .int (nI v), j], h') ∧ Fr (Wsh f) h h' ∧ ∀ u, u < v → (okV A f u && (shF n (aMore A f u) (f + 1) (left - u)).isSome) = false)
      (fun r => ∃ h' L, Fr (Wsh f) h h' ∧ ((∃ l, shF (n + 1) A f left = some l ∧ r = (.inr (some (.int (nI 1))), (L, h')) ∧ ∀ k, k < l.length → hI h' 140 (f + k) = nI (l.getD k 0)) ∨ (shF (n + 1) A f left = none ∧ r = (.inl 0, (L, h')))))
      ?_ ?_ ([.ref 98, .int (nI f), .int (nI left), .int (nI 0), .null], h) ⟨h, .null, rfl, Fr_refl _ _, fun u hu => by cases hu⟩
    · obtain ⟨r, e, h', L, f', ⟨l, g1, rfl, g2⟩ | ⟨g1, rfl⟩⟩ := hL
      · rw [g1]
        refine ⟨h', ?_, f', fun l' hl' => by cases hl'; exact g2⟩
        simp only [nI_0, n_11] at e
        simp (disch := first | assumption | omega) [f_M_share, body_M_share, j_meth, j_out, j_rok, j_pad, lg_sl, s_seq_w, isN_inl, isN_inr, s_if, jb, x_c, x_iloc, x_aloc, x_lloc, x_bin, x_un, o_add, o_sub, o_mul, o_and, o_or, o_xor, o_shl, o_shr, o_ushr, o_max, o_min, o_i2b, o_i2c, o_i2l, o_l2i, x_fld, j_fget, x_idx, j_aget, x_len, j_alen, x_ofb, x_ite, xs_nil, xs_cons, x_callv, x_calls, s_callv, s_calls, j_recv, j_ret, j_retv, b_cmp, b_and, b_or, b_not, b_ofi, b_ite, b_true, s_skip, s_set, j_ty, j_lset, j_kill, s_inc, s_fput, j_fput, s_fop, s_aput, j_aput, j_nar, s_aop, s_ret, s_retv, s_go, s_pop, x_linc, x_finc, Value.category, if_icmp.holds, List.flatMap_cons, List.flatMap_nil, List.length_cons, List.length_append, List.length_nil, List.set_cons_succ, List.set_cons_zero, List.getElem?_cons_succ, List.getElem?_cons_zero, List.replicate, ite_and', ite_or', ite_int', nI_leI, nI_ltI, nI_eq, nI_add, nI_1, pk_mul, nI_clamp, n_in', nI_pos', nI_pos, n_m1e, n_01, n_10, sT_98, sT_99, sT_100, sT_101, sT_102, sT_103, sT_104, sT_105, sT_106, sT_107, sT_108, sT_109, sT_110, sT_111, sT_112, sT_113, sT_114, sT_115, sT_116, sT_117, sT_118, sT_119, sT_120, sT_121, sT_122, sT_123, sT_124, sT_125, sT_126, sT_127, sT_128, sT_129, sT_130, sT_131, sT_132, sT_133, sT_134, sT_135, sT_136, sT_137, sT_138, sT_139, sT_140, sR_98_1, sR_98_4, sR_98_5, sR_98_6, sR_98_7, sR_98_8, sR_98_9, sR_98_10, sR_98_12, sR_98_13, sR_98_14, sR_98_15, sR_98_16, sR_98_17, sR_98_18, sR_98_19, sR_98_20, sR_98_21, sR_98_22, sR_98_23, sR_98_24, sR_98_25, sR_98_26, sR_98_27, sR_98_28, sR_98_29, sR_98_31, sR_98_34, sR_98_35, sR_98_36, sR_98_42, sR_98_44, sR_98_45, sR_98_47, sR_98_49, sR_98_51, sR_98_56, sR_98_58, sR_98_62, sR_98_65, sR_98_66, sR_98_69, q2, hfn, nI_0, e, n_11]
      · rw [g1]
        refine ⟨h', ?_, f', fun l' hl' => by cases hl'⟩
        simp only [nI_0] at e
        simp (disch := first | assumption | omega) [f_M_share, body_M_share, j_meth, j_out, j_rok, j_pad, lg_sl, s_seq_w, isN_inl, isN_inr, s_if, jb, x_c, x_iloc, x_aloc, x_lloc, x_bin, x_un, o_add, o_sub, o_mul, o_and, o_or, o_xor, o_shl, o_shr, o_ushr, o_max, o_min, o_i2b, o_i2c, o_i2l, o_l2i, x_fld, j_fget, x_idx, j_aget, x_len, j_alen, x_ofb, x_ite, xs_nil, xs_cons, x_callv, x_calls, s_callv, s_calls, j_recv, j_ret, j_retv, b_cmp, b_and, b_or, b_not, b_ofi, b_ite, b_true, s_skip, s_set, j_ty, j_lset, j_kill, s_inc, s_fput, j_fput, s_fop, s_aput, j_aput, j_nar, s_aop, s_ret, s_retv, s_go, s_pop, x_linc, x_finc, Value.category, if_icmp.holds, List.flatMap_cons, List.flatMap_nil, List.length_cons, List.length_append, List.length_nil, List.set_cons_succ, List.set_cons_zero, List.getElem?_cons_succ, List.getElem?_cons_zero, List.replicate, ite_and', ite_or', ite_int', nI_leI, nI_ltI, nI_eq, nI_add, nI_1, pk_mul, nI_clamp, n_in', nI_pos', nI_pos, n_m1e, n_01, n_10, sT_98, sT_99, sT_100, sT_101, sT_102, sT_103, sT_104, sT_105, sT_106, sT_107, sT_108, sT_109, sT_110, sT_111, sT_112, sT_113, sT_114, sT_115, sT_116, sT_117, sT_118, sT_119, sT_120, sT_121, sT_122, sT_123, sT_124, sT_125, sT_126, sT_127, sT_128, sT_129, sT_130, sT_131, sT_132, sT_133, sT_134, sT_135, sT_136, sT_137, sT_138, sT_139, sT_140, sR_98_1, sR_98_4, sR_98_5, sR_98_6, sR_98_7, sR_98_8, sR_98_9, sR_98_10, sR_98_12, sR_98_13, sR_98_14, sR_98_15, sR_98_16, sR_98_17, sR_98_18, sR_98_19, sR_98_20, sR_98_21, sR_98_22, sR_98_23, sR_98_24, sR_98_25, sR_98_26, sR_98_27, sR_98_28, sR_98_29, sR_98_31, sR_98_34, sR_98_35, sR_98_36, sR_98_42, sR_98_44, sR_98_45, sR_98_47, sR_98_49, sR_98_51, sR_98_56, sR_98_58, sR_98_62, sR_98_65, sR_98_66, sR_98_69, q2, hfn, nI_0, e]
    · rintro v st hv ⟨h1, j, rfl, f1, hall⟩
      have k1 := RMK_fr k f1 (Wsh_cM f)
      have hs1 := k1.1
      have c113 := mo_h k1 (f := f) (by omega)
      have c112 := told_h k1 (f := f) (by omega)
      have hvl : v ≤ left := by omega
      by_cases hok : okV A f v = true
      · -- go on with v
        have f2 : Fr (fun a k => a = 140 ∧ f ≤ k) h1 (hSetI h1 140 f (nI v)) := Fr_set _ ⟨rfl, Nat.le_refl _⟩
        have k2 := RMK_fr k1 f2 (by unfold cM; intro a k; omega)
        have k3 := RMK_more k2 (f := f) (v := v) (by omega) hok
        have hs2 := k2.1
        have hs3 := k3.1
        have c140 : hI (hSetI (hSetI h1 140 f (nI v)) 113 f (nI (mo A f + v))) 140 f = nI v := by rw [hI_setI, if_neg (by omega), hI_setI, if_pos ⟨rfl, rfl⟩]
        have d113 : hI (hSetI h1 140 f (nI v)) 113 f = nI (mo A f) := by rw [hI_setI, if_neg (by omega)]; exact c113
        have e113 : hI (hSetI (hSetI h1 140 f (nI v)) 113 f (nI (mo A f + v))) 113 f = nI (mo A f + v) := by rw [hI_setI, if_pos ⟨rfl, rfl⟩]
        have x3 : ∀ a k, ¬ (a = 140 ∧ k = f) → ¬ (a = 113 ∧ k = f) → hI (hSetI (hSetI h1 140 f (nI v)) 113 f (nI (mo A f + v))) a k = hI h1 a k := fun a k q1 q2 => by rw [hI_setI, if_neg q2, hI_setI, if_neg q1]
        have fr3 : Fr (fun _ _ => True) h1 (hSetI (hSetI h1 140 f (nI v)) 113 f (nI (mo A f + v))) := Fr_trans (Fr_set _ trivial) (Fr_set _ trivial)
        generalize hh2 : hSetI h1 140 f (nI v) = h2 at *
        generalize hh3 : hSetI h2 113 f (nI (mo A f + v)) = h3 at *
        have hno3 : aNo (aMore A f v) = aNo A := (aMore_id A f v).2.1
        obtain ⟨h4, e4, f4, g4⟩ := ih m (by omega) (aMore A f v) (f + 1) (left - v) h3 (by rw [hno3]; omega) (by omega) k3
        have c4 : hI h4 113 f = nI (mo A f + v) := by rw [Fr_I f4 (by unfold Wsh Wgt Wjd Wmk; omega)]; exact e113
        have hs4 := Fr_shape hs3 f4
        have hsub : nI (mo A f + v) - nI v = nI (mo A f) := by rw [pk_sub (by omega)]; congr 1; omega
        have hsl : nI left - nI v = nI (left - v) := pk_sub hvl
        have f5 : Fr (Wsh f) h1 (hSetI h4 113 f (nI (mo A f))) := by
          refine ⟨?_, fun a k hW => ?_⟩
          · exact (Fr_trans fr3 (Fr_trans (Fr_mono f4 fun _ _ _ => trivial) (Fr_set (W := fun _ _ => True) _ trivial))).1
          · rw [hI_setI]
            by_cases e : a = 113 ∧ k = f
            · rw [if_pos e]; obtain ⟨rfl, rfl⟩ := e; exact c113.symm
            · rw [if_neg e, Fr_I f4 (fun q => hW (by
              rcases q with q | q
              · exact Or.inl q
              · exact Or.inr ⟨q.1, by omega⟩)), x3 a k (fun q => hW (Or.inr ⟨q.1, by omega⟩)) e]
        have hs5 := Fr_shape hs1 f5
        have hstep : ∀ z : Bool, (shF n (aMore A f v) (f + 1) (left - v)).isSome = z → lstp 1 2 (lc_M_share_1 (f_M_share m)) (lb_M_share_1 (f_M_share m)) (lu_M_share_1 (f_M_share m)) ([.ref 98, .int (nI f), .int (nI left), .int (nI v), j], h1) = some (if z then .inr (.inr (some (.int (nI 1))), ([.ref 98, .int (nI f), .int (nI left), .int (nI v), .int 1], hSetI h4 113 f (nI (mo A f)))) else .inl ([.ref 98, .int (nI f), .int (nI left), .int (nI (v + 1)), .int 0], hSetI h4 113 f (nI (mo A f)))) := by
          intro z hz
          rw [hz] at e4
          by_cases hv0 : v = 0
          · have hnpos : ¬ (0 : Int32) < nI v := by rw [hv0]; decide
            cases z with
            | true => simp (disch := first | assumption | omega) [lstp, lc_M_share_1, lb_M_share_1, lu_M_share_1, j_meth, j_out, j_rok, j_pad, lg_sl, s_seq_w, isN_inl, isN_inr, s_if, jb, x_c, x_iloc, x_aloc, x_lloc, x_bin, x_un, o_add, o_sub, o_mul, o_and, o_or, o_xor, o_shl, o_shr, o_ushr, o_max, o_min, o_i2b, o_i2c, o_i2l, o_l2i, x_fld, j_fget, x_idx, j_aget, x_len, j_alen, x_ofb, x_ite, xs_nil, xs_cons, x_callv, x_calls, s_callv, s_calls, j_recv, j_ret, j_retv, b_cmp, b_and, b_or, b_not, b_ofi, b_ite, b_true, s_skip, s_set, j_ty, j_lset, j_kill, s_inc, s_fput, j_fput, s_fop, s_aput, j_aput, j_nar, s_aop, s_ret, s_retv, s_go, s_pop, x_linc, x_finc, Value.category, if_icmp.holds, List.flatMap_cons, List.flatMap_nil, List.length_cons, List.length_append, List.length_nil, List.set_cons_succ, List.set_cons_zero, List.getElem?_cons_succ, List.getElem?_cons_zero, List.replicate, ite_and', ite_or', ite_int', nI_leI, nI_ltI, nI_eq, nI_add, nI_1, pk_mul, nI_clamp, n_in', nI_pos', nI_pos, n_m1e, n_01, n_10, sT_98, sT_99, sT_100, sT_101, sT_102, sT_103, sT_104, sT_105, sT_106, sT_107, sT_108, sT_109, sT_110, sT_111, sT_112, sT_113, sT_114, sT_115, sT_116, sT_117, sT_118, sT_119, sT_120, sT_121, sT_122, sT_123, sT_124, sT_125, sT_126, sT_127, sT_128, sT_129, sT_130, sT_131, sT_132, sT_133, sT_134, sT_135, sT_136, sT_137, sT_138, sT_139, sT_140, sR_98_1, sR_98_4, sR_98_5, sR_98_6, sR_98_7, sR_98_8, sR_98_9, sR_98_10, sR_98_12, sR_98_13, sR_98_14, sR_98_15, sR_98_16, sR_98_17, sR_98_18, sR_98_19, sR_98_20, sR_98_21, sR_98_22, sR_98_23, sR_98_24, sR_98_25, sR_98_26, sR_98_27, sR_98_28, sR_98_29, sR_98_31, sR_98_34, sR_98_35, sR_98_36, sR_98_42, sR_98_44, sR_98_45, sR_98_47, sR_98_49, sR_98_51, sR_98_56, sR_98_58, sR_98_62, sR_98_65, sR_98_66, sR_98_69, hvl, hnpos, hh2, d113, hh3, hsl, e4, c4, hsub]
            | false => simp (disch := first | assumption | omega) [lstp, lc_M_share_1, lb_M_share_1, lu_M_share_1, j_meth, j_out, j_rok, j_pad, lg_sl, s_seq_w, isN_inl, isN_inr, s_if, jb, x_c, x_iloc, x_aloc, x_lloc, x_bin, x_un, o_add, o_sub, o_mul, o_and, o_or, o_xor, o_shl, o_shr, o_ushr, o_max, o_min, o_i2b, o_i2c, o_i2l, o_l2i, x_fld, j_fget, x_idx, j_aget, x_len, j_alen, x_ofb, x_ite, xs_nil, xs_cons, x_callv, x_calls, s_callv, s_calls, j_recv, j_ret, j_retv, b_cmp, b_and, b_or, b_not, b_ofi, b_ite, b_true, s_skip, s_set, j_ty, j_lset, j_kill, s_inc, s_fput, j_fput, s_fop, s_aput, j_aput, j_nar, s_aop, s_ret, s_retv, s_go, s_pop, x_linc, x_finc, Value.category, if_icmp.holds, List.flatMap_cons, List.flatMap_nil, List.length_cons, List.length_append, List.length_nil, List.set_cons_succ, List.set_cons_zero, List.getElem?_cons_succ, List.getElem?_cons_zero, List.replicate, ite_and', ite_or', ite_int', nI_leI, nI_ltI, nI_eq, nI_add, nI_1, pk_mul, nI_clamp, n_in', nI_pos', nI_pos, n_m1e, n_01, n_10, sT_98, sT_99, sT_100, sT_101, sT_102, sT_103, sT_104, sT_105, sT_106, sT_107, sT_108, sT_109, sT_110, sT_111, sT_112, sT_113, sT_114, sT_115, sT_116, sT_117, sT_118, sT_119, sT_120, sT_121, sT_122, sT_123, sT_124, sT_125, sT_126, sT_127, sT_128, sT_129, sT_130, sT_131, sT_132, sT_133, sT_134, sT_135, sT_136, sT_137, sT_138, sT_139, sT_140, sR_98_1, sR_98_4, sR_98_5, sR_98_6, sR_98_7, sR_98_8, sR_98_9, sR_98_10, sR_98_12, sR_98_13, sR_98_14, sR_98_15, sR_98_16, sR_98_17, sR_98_18, sR_98_19, sR_98_20, sR_98_21, sR_98_22, sR_98_23, sR_98_24, sR_98_25, sR_98_26, sR_98_27, sR_98_28, sR_98_29, sR_98_31, sR_98_34, sR_98_35, sR_98_36, sR_98_42, sR_98_44, sR_98_45, sR_98_47, sR_98_49, sR_98_51, sR_98_56, sR_98_58, sR_98_62, sR_98_65, sR_98_66, sR_98_69, hvl, hnpos, hh2, d113, hh3, hsl, e4, c4, hsub]
          · have hpos : (0 : Int32) < nI v := by rw [← nI_0]; exact (nI_ltI (by omega) (by omega)).mpr (by omega)
            unfold okV at hok
            cases hC : aCh A f with
            | none => rw [hC] at hok; simp at hok; exact absurd hok hv0
            | some C =>
              rw [hC] at hok c112
              have hle : cMost C + v ≤ 8 := by simpa [hv0] using hok
              have hmo : mo A f = cMost C := by unfold mo; rw [hC]
              have h8 : ¬ 8 < mo A f + v := by omega
              cases z with
              | true => simp (disch := first | assumption | omega) [lstp, lc_M_share_1, lb_M_share_1, lu_M_share_1, j_meth, j_out, j_rok, j_pad, lg_sl, s_seq_w, isN_inl, isN_inr, s_if, jb, x_c, x_iloc, x_aloc, x_lloc, x_bin, x_un, o_add, o_sub, o_mul, o_and, o_or, o_xor, o_shl, o_shr, o_ushr, o_max, o_min, o_i2b, o_i2c, o_i2l, o_l2i, x_fld, j_fget, x_idx, j_aget, x_len, j_alen, x_ofb, x_ite, xs_nil, xs_cons, x_callv, x_calls, s_callv, s_calls, j_recv, j_ret, j_retv, b_cmp, b_and, b_or, b_not, b_ofi, b_ite, b_true, s_skip, s_set, j_ty, j_lset, j_kill, s_inc, s_fput, j_fput, s_fop, s_aput, j_aput, j_nar, s_aop, s_ret, s_retv, s_go, s_pop, x_linc, x_finc, Value.category, if_icmp.holds, List.flatMap_cons, List.flatMap_nil, List.length_cons, List.length_append, List.length_nil, List.set_cons_succ, List.set_cons_zero, List.getElem?_cons_succ, List.getElem?_cons_zero, List.replicate, ite_and', ite_or', ite_int', nI_leI, nI_ltI, nI_eq, nI_add, nI_1, pk_mul, nI_clamp, n_in', nI_pos', nI_pos, n_m1e, n_01, n_10, sT_98, sT_99, sT_100, sT_101, sT_102, sT_103, sT_104, sT_105, sT_106, sT_107, sT_108, sT_109, sT_110, sT_111, sT_112, sT_113, sT_114, sT_115, sT_116, sT_117, sT_118, sT_119, sT_120, sT_121, sT_122, sT_123, sT_124, sT_125, sT_126, sT_127, sT_128, sT_129, sT_130, sT_131, sT_132, sT_133, sT_134, sT_135, sT_136, sT_137, sT_138, sT_139, sT_140, sR_98_1, sR_98_4, sR_98_5, sR_98_6, sR_98_7, sR_98_8, sR_98_9, sR_98_10, sR_98_12, sR_98_13, sR_98_14, sR_98_15, sR_98_16, sR_98_17, sR_98_18, sR_98_19, sR_98_20, sR_98_21, sR_98_22, sR_98_23, sR_98_24, sR_98_25, sR_98_26, sR_98_27, sR_98_28, sR_98_29, sR_98_31, sR_98_34, sR_98_35, sR_98_36, sR_98_42, sR_98_44, sR_98_45, sR_98_47, sR_98_49, sR_98_51, sR_98_56, sR_98_58, sR_98_62, sR_98_65, sR_98_66, sR_98_69, hvl, hpos, c112, c113, h8, hh2, d113, hh3, hsl, e4, c4, hsub]
              | false => simp (disch := first | assumption | omega) [lstp, lc_M_share_1, lb_M_share_1, lu_M_share_1, j_meth, j_out, j_rok, j_pad, lg_sl, s_seq_w, isN_inl, isN_inr, s_if, jb, x_c, x_iloc, x_aloc, x_lloc, x_bin, x_un, o_add, o_sub, o_mul, o_and, o_or, o_xor, o_shl, o_shr, o_ushr, o_max, o_min, o_i2b, o_i2c, o_i2l, o_l2i, x_fld, j_fget, x_idx, j_aget, x_len, j_alen, x_ofb, x_ite, xs_nil, xs_cons, x_callv, x_calls, s_callv, s_calls, j_recv, j_ret, j_retv, b_cmp, b_and, b_or, b_not, b_ofi, b_ite, b_true, s_skip, s_set, j_ty, j_lset, j_kill, s_inc, s_fput, j_fput, s_fop, s_aput, j_aput, j_nar, s_aop, s_ret, s_retv, s_go, s_pop, x_linc, x_finc, Value.category, if_icmp.holds, List.flatMap_cons, List.flatMap_nil, List.length_cons, List.length_append, List.length_nil, List.set_cons_succ, List.set_cons_zero, List.getElem?_cons_succ, List.getElem?_cons_zero, List.replicate, ite_and', ite_or', ite_int', nI_leI, nI_ltI, nI_eq, nI_add, nI_1, pk_mul, nI_clamp, n_in', nI_pos', nI_pos, n_m1e, n_01, n_10, sT_98, sT_99, sT_100, sT_101, sT_102, sT_103, sT_104, sT_105, sT_106, sT_107, sT_108, sT_109, sT_110, sT_111, sT_112, sT_113, sT_114, sT_115, sT_116, sT_117, sT_118, sT_119, sT_120, sT_121, sT_122, sT_123, sT_124, sT_125, sT_126, sT_127, sT_128, sT_129, sT_130, sT_131, sT_132, sT_133, sT_134, sT_135, sT_136, sT_137, sT_138, sT_139, sT_140, sR_98_1, sR_98_4, sR_98_5, sR_98_6, sR_98_7, sR_98_8, sR_98_9, sR_98_10, sR_98_12, sR_98_13, sR_98_14, sR_98_15, sR_98_16, sR_98_17, sR_98_18, sR_98_19, sR_98_20, sR_98_21, sR_98_22, sR_98_23, sR_98_24, sR_98_25, sR_98_26, sR_98_27, sR_98_28, sR_98_29, sR_98_31, sR_98_34, sR_98_35, sR_98_36, sR_98_42, sR_98_44, sR_98_45, sR_98_47, sR_98_49, sR_98_51, sR_98_56, sR_98_58, sR_98_62, sR_98_65, sR_98_66, sR_98_69, hvl, hpos, c112, c113, h8, hh2, d113, hh3, hsl, e4, c4, hsub]
        cases hz : shF n (aMore A f v) (f + 1) (left - v) with
        | none =>
          left
          have := hstep false (by rw [hz]; rfl)
          refine ⟨_, this, _, _, rfl, Fr_trans f1 f5, fun u hu => ?_⟩
          by_cases e : u = v
          · rw [e, hz]; simp
          · exact hall u (by omega)
        | some l =>
          right
          have := hstep true (by rw [hz]; rfl)
          have hsn : shF (n + 1) A f left = some (v :: l) := by
            unfold shF
            rw [fst1_of (j := v) (by omega) (by simp only [hok, hz, Bool.true_and]; rfl) hall]
            simp only [hz, Option.map_some]
          refine ⟨_, this, _, _, Fr_trans f1 f5, Or.inl ⟨_, hsn, rfl, fun k hk => ?_⟩⟩
          rw [hI_setI, if_neg (by omega)]
          cases k with
          | zero => rw [Nat.add_zero, Fr_I f4 (by unfold Wsh Wgt Wjd Wmk; omega)]; exact c140
          | succ k =>
            have := g4 l hz k (by simp at hk; omega)
            rw [show f + (k + 1) = f + 1 + k by omega, this]
            rfl
      · right
        have hv0 : ¬ v = 0 := fun q => hok (by simp [okV, q])
        have hpos : (0 : Int32) < nI v := by rw [← nI_0]; exact (nI_ltI (by omega) (by omega)).mpr (by omega)
        have hmn : ∀ u, v ≤ u → okV A f u = false := by
          intro u hu
          unfold okV at hok ⊢
          cases hC : aCh A f with
          | none => simp; omega
          | some C => rw [hC] at hok; simp [hv0] at hok; simp; omega
        have hsn : shF (n + 1) A f left = none := by
          unfold shF
          rw [fst1_no fun u hu => ?_]
          by_cases e : u < v
          · exact hall u e
          · rw [hmn u (by omega)]; rfl
        refine ⟨(.inl 0, ([.ref 98, .int (nI f), .int (nI left), .int (nI v), j], h1)), ?_, h1, _, f1, Or.inr ⟨hsn, rfl⟩⟩
        unfold okV at hok
        cases hC : aCh A f with
        | none =>
          rw [hC] at c112
          simp (disch := first | assumption | omega) [lstp, lc_M_share_1, lb_M_share_1, lu_M_share_1, j_meth, j_out, j_rok, j_pad, lg_sl, s_seq_w, isN_inl, isN_inr, s_if, jb, x_c, x_iloc, x_aloc, x_lloc, x_bin, x_un, o_add, o_sub, o_mul, o_and, o_or, o_xor, o_shl, o_shr, o_ushr, o_max, o_min, o_i2b, o_i2c, o_i2l, o_l2i, x_fld, j_fget, x_idx, j_aget, x_len, j_alen, x_ofb, x_ite, xs_nil, xs_cons, x_callv, x_calls, s_callv, s_calls, j_recv, j_ret, j_retv, b_cmp, b_and, b_or, b_not, b_ofi, b_ite, b_true, s_skip, s_set, j_ty, j_lset, j_kill, s_inc, s_fput, j_fput, s_fop, s_aput, j_aput, j_nar, s_aop, s_ret, s_retv, s_go, s_pop, x_linc, x_finc, Value.category, if_icmp.holds, List.flatMap_cons, List.flatMap_nil, List.length_cons, List.length_append, List.length_nil, List.set_cons_succ, List.set_cons_zero, List.getElem?_cons_succ, List.getElem?_cons_zero, List.replicate, ite_and', ite_or', ite_int', nI_leI, nI_ltI, nI_eq, nI_add, nI_1, pk_mul, nI_clamp, n_in', nI_pos', nI_pos, n_m1e, n_01, n_10, sT_98, sT_99, sT_100, sT_101, sT_102, sT_103, sT_104, sT_105, sT_106, sT_107, sT_108, sT_109, sT_110, sT_111, sT_112, sT_113, sT_114, sT_115, sT_116, sT_117, sT_118, sT_119, sT_120, sT_121, sT_122, sT_123, sT_124, sT_125, sT_126, sT_127, sT_128, sT_129, sT_130, sT_131, sT_132, sT_133, sT_134, sT_135, sT_136, sT_137, sT_138, sT_139, sT_140, sR_98_1, sR_98_4, sR_98_5, sR_98_6, sR_98_7, sR_98_8, sR_98_9, sR_98_10, sR_98_12, sR_98_13, sR_98_14, sR_98_15, sR_98_16, sR_98_17, sR_98_18, sR_98_19, sR_98_20, sR_98_21, sR_98_22, sR_98_23, sR_98_24, sR_98_25, sR_98_26, sR_98_27, sR_98_28, sR_98_29, sR_98_31, sR_98_34, sR_98_35, sR_98_36, sR_98_42, sR_98_44, sR_98_45, sR_98_47, sR_98_49, sR_98_51, sR_98_56, sR_98_58, sR_98_62, sR_98_65, sR_98_66, sR_98_69, hvl, hpos, c112]
        | some C =>
          rw [hC] at hok c112
          have hmo : mo A f = cMost C := by unfold mo; rw [hC]
          have h8 : 8 < mo A f + v := by simp [hv0] at hok; omega
          simp (disch := first | assumption | omega) [lstp, lc_M_share_1, lb_M_share_1, lu_M_share_1, j_meth, j_out, j_rok, j_pad, lg_sl, s_seq_w, isN_inl, isN_inr, s_if, jb, x_c, x_iloc, x_aloc, x_lloc, x_bin, x_un, o_add, o_sub, o_mul, o_and, o_or, o_xor, o_shl, o_shr, o_ushr, o_max, o_min, o_i2b, o_i2c, o_i2l, o_l2i, x_fld, j_fget, x_idx, j_aget, x_len, j_alen, x_ofb, x_ite, xs_nil, xs_cons, x_callv, x_calls, s_callv, s_calls, j_recv, j_ret, j_retv, b_cmp, b_and, b_or, b_not, b_ofi, b_ite, b_true, s_skip, s_set, j_ty, j_lset, j_kill, s_inc, s_fput, j_fput, s_fop, s_aput, j_aput, j_nar, s_aop, s_ret, s_retv, s_go, s_pop, x_linc, x_finc, Value.category, if_icmp.holds, List.flatMap_cons, List.flatMap_nil, List.length_cons, List.length_append, List.length_nil, List.set_cons_succ, List.set_cons_zero, List.getElem?_cons_succ, List.getElem?_cons_zero, List.replicate, ite_and', ite_or', ite_int', nI_leI, nI_ltI, nI_eq, nI_add, nI_1, pk_mul, nI_clamp, n_in', nI_pos', nI_pos, n_m1e, n_01, n_10, sT_98, sT_99, sT_100, sT_101, sT_102, sT_103, sT_104, sT_105, sT_106, sT_107, sT_108, sT_109, sT_110, sT_111, sT_112, sT_113, sT_114, sT_115, sT_116, sT_117, sT_118, sT_119, sT_120, sT_121, sT_122, sT_123, sT_124, sT_125, sT_126, sT_127, sT_128, sT_129, sT_130, sT_131, sT_132, sT_133, sT_134, sT_135, sT_136, sT_137, sT_138, sT_139, sT_140, sR_98_1, sR_98_4, sR_98_5, sR_98_6, sR_98_7, sR_98_8, sR_98_9, sR_98_10, sR_98_12, sR_98_13, sR_98_14, sR_98_15, sR_98_16, sR_98_17, sR_98_18, sR_98_19, sR_98_20, sR_98_21, sR_98_22, sR_98_23, sR_98_24, sR_98_25, sR_98_26, sR_98_27, sR_98_28, sR_98_29, sR_98_31, sR_98_34, sR_98_35, sR_98_36, sR_98_42, sR_98_44, sR_98_45, sR_98_47, sR_98_49, sR_98_51, sR_98_56, sR_98_58, sR_98_62, sR_98_65, sR_98_66, sR_98_69, hvl, hpos, c112, c113, h8]
    · rintro st ⟨h1, j, rfl, f1, hall⟩
      have hs1 := Fr_shape hs f1
      have hsn : shF (n + 1) A f left = none := by
        unfold shF
        rw [fst1_no hall]
      have hle : ¬ left + 1 ≤ left := by omega
      refine ⟨(.inl 0, ([.ref 98, .int (nI f), .int (nI left), .int (nI (left + 1)), j], h1)), ?_, h1, _, f1, Or.inr ⟨hsn, rfl⟩⟩
      simp (disch := first | assumption | omega) [lstp, lc_M_share_1, lb_M_share_1, lu_M_share_1, j_meth, j_out, j_rok, j_pad, lg_sl, s_seq_w, isN_inl, isN_inr, s_if, jb, x_c, x_iloc, x_aloc, x_lloc, x_bin, x_un, o_add, o_sub, o_mul, o_and, o_or, o_xor, o_shl, o_shr, o_ushr, o_max, o_min, o_i2b, o_i2c, o_i2l, o_l2i, x_fld, j_fget, x_idx, j_aget, x_len, j_alen, x_ofb, x_ite, xs_nil, xs_cons, x_callv, x_calls, s_callv, s_calls, j_recv, j_ret, j_retv, b_cmp, b_and, b_or, b_not, b_ofi, b_ite, b_true, s_skip, s_set, j_ty, j_lset, j_kill, s_inc, s_fput, j_fput, s_fop, s_aput, j_aput, j_nar, s_aop, s_ret, s_retv, s_go, s_pop, x_linc, x_finc, Value.category, if_icmp.holds, List.flatMap_cons, List.flatMap_nil, List.length_cons, List.length_append, List.length_nil, List.set_cons_succ, List.set_cons_zero, List.getElem?_cons_succ, List.getElem?_cons_zero, List.replicate, ite_and', ite_or', ite_int', nI_leI, nI_ltI, nI_eq, nI_add, nI_1, pk_mul, nI_clamp, n_in', nI_pos', nI_pos, n_m1e, n_01, n_10, sT_98, sT_99, sT_100, sT_101, sT_102, sT_103, sT_104, sT_105, sT_106, sT_107, sT_108, sT_109, sT_110, sT_111, sT_112, sT_113, sT_114, sT_115, sT_116, sT_117, sT_118, sT_119, sT_120, sT_121, sT_122, sT_123, sT_124, sT_125, sT_126, sT_127, sT_128, sT_129, sT_130, sT_131, sT_132, sT_133, sT_134, sT_135, sT_136, sT_137, sT_138, sT_139, sT_140, sR_98_1, sR_98_4, sR_98_5, sR_98_6, sR_98_7, sR_98_8, sR_98_9, sR_98_10, sR_98_12, sR_98_13, sR_98_14, sR_98_15, sR_98_16, sR_98_17, sR_98_18, sR_98_19, sR_98_20, sR_98_21, sR_98_22, sR_98_23, sR_98_24, sR_98_25, sR_98_26, sR_98_27, sR_98_28, sR_98_29, sR_98_31, sR_98_34, sR_98_35, sR_98_36, sR_98_42, sR_98_44, sR_98_45, sR_98_47, sR_98_49, sR_98_51, sR_98_56, sR_98_58, sR_98_62, sR_98_65, sR_98_66, sR_98_69, hle]
