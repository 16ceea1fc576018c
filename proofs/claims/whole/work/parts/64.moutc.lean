/-! the outcome of OFFERS -/
def sumN (f : Nat → Nat) (n : Nat) : Nat := nfo (fun i m => m + f i) n 0
theorem sumN_s (f : Nat → Nat) (n : Nat) : sumN f (n + 1) = sumN f n + f n := rfl
theorem sumN_le {f g : Nat → Nat} : ∀ {n}, (∀ i, i < n → f i ≤ g i) → sumN f n ≤ sumN g n := by
  intro n
  induction n with
  | zero => intro _; exact Nat.le_refl _
  | succ n ih => intro h; rw [sumN_s, sumN_s]; have := ih fun i hi => h i (by omega); have := h n (by omega); omega
theorem sumN_lt {f g : Nat → Nat} : ∀ {n}, (∀ i, i < n → f i ≤ g i) → (∃ i, i < n ∧ f i < g i) → sumN f n < sumN g n := by
  intro n
  induction n with
  | zero => rintro _ ⟨i, hi, _⟩; omega
  | succ n ih =>
    rintro h ⟨i, hi, hlt⟩
    rw [sumN_s, sumN_s]
    have h1 := h n (by omega)
    have h2 := sumN_le (f := f) (g := g) (n := n) fun i hi => h i (by omega)
    by_cases e : i = n
    · subst e; omega
    · have := ih (fun i hi => h i (by omega)) ⟨i, by omega, hlt⟩; omega
abbrev OS : Type := Nat × Nat × Nat × Nat × (Nat → List Nat)
def oAct (A : AS) (s : OS) (p : Nat) : Option Nat := if (sBnd A s.2.1 p).isNone then (s.2.2.2.2 p).head? else none
def oNow (A : AS) (s : OS) : Nat := nfo (fun p m => m ||| oM (oAct A s p)) (aNp A) 0
def oHld (A : AS) (ever : Nat) : Nat := nfo (fun f m => m ||| sTk A f (ever &&& sOff A f)) (aNo A) 0
def oTl (A : AS) (s : OS) (p : Nat) : List Nat := if (sBnd A s.2.1 p).isNone then (s.2.2.2.2 p).tail else s.2.2.2.2 p
def oStp (A : AS) (s : OS) : OS := (s.1 ||| oNow A s, oHld A (s.1 ||| oNow A s), s.2.2.1 + 1, s.2.2.2.1 + popN 32 (oNow A s), oTl A s)
def oRun (A : AS) : Nat → OS → OS
  | 0, s => s
  | n + 1, s => if oNow A s = 0 then s else oRun A n (oStp A s)
def oMs (A : AS) (s : OS) : Nat := sumN (fun p => (s.2.2.2.2 p).length) (aNp A)
theorem nfo_or0 {f : Nat → Nat} : ∀ {n}, (∀ i, i < n → f i = 0) → nfo (fun i m => m ||| f i) n 0 = 0 := by
  intro n
  induction n with
  | zero => intro _; rfl
  | succ n ih => intro h; simp only [nfo]; rw [ih fun i hi => h i (by omega), h n (by omega)]; rfl
theorem oMs_lt {A : AS} {s : OS} (h : oNow A s ≠ 0) : oMs A (oStp A s) < oMs A s := by
  unfold oMs
  refine sumN_lt (fun i hi => ?_) ?_
  · simp only [oStp, oTl]
    split
    · rw [List.length_tail]; omega
    · exact Nat.le_refl _
  · have : ∃ p, p < aNp A ∧ oAct A s p ≠ none := by
      refine Classical.byContradiction fun q => h ?_
      refine nfo_or0 fun i hi => ?_
      have : oAct A s i = none := Classical.byContradiction fun z => q ⟨i, hi, z⟩
      rw [this]; rfl
    obtain ⟨p, hp, hne⟩ := this
    refine ⟨p, hp, ?_⟩
    unfold oAct at hne
    simp only [oStp, oTl]
    split at hne
    · rename_i h1
      rw [if_pos h1]
      cases hr : s.2.2.2.2 p with
      | nil => rw [hr] at hne; simp at hne
      | cons b r => simp
    · exact absurd rfl hne
def oIni (A : AS) (li : Option (Nat × List Nat)) (si mi : Option Nat) : OS := (0, 0, 0, 0, fun p => oRem A li si mi p 0)
def sOut (A : AS) (li : Option (Nat × List Nat)) (si mi : Option Nat) : OS := oRun A 36 (oIni A li si mi)
def sOuV (A : AS) (li : Option (Nat × List Nat)) (si mi : Option Nat) : Option Nat := if popN 32 (sPpl A (sOut A li si mi).2.1) = popN 32 (sOut A li si mi).2.1 then some (sOut A li si mi).2.1 else none
def Wof (a k : Nat) : Prop := Wmk a k ∨ (a = 98 ∧ (k = 54 ∨ k = 55)) ∨ a = 135
theorem Wof_mk : ∀ a k, Wmk a k → Wof a k := fun _ _ h => Or.inl h
def RQ (A : AS) (li : Option (Nat × List Nat)) (si mi : Option Nat) (h : jHp) (p : Nat) (l : List Nat) : Prop := ∃ j, j ≤ (oRaw A li p).length ∧ hI h 135 p = nI j ∧ oRem A li si mi p j = l
theorem RQ_mem {A : AS} (w : WF A) {li : Option (Nat × List Nat)} {si mi : Option Nat} (lo : LOk A li si mi) {h : jHp} {p : Nat} {l : List Nat} (r : RQ A li si mi h p l) : ∀ b ∈ l, b < aNb A ∧ aPe A b = p := by
  obtain ⟨j, -, -, rfl⟩ := r
  intro b hb
  unfold oRem at hb
  split at hb
  · cases hb
  · exact (oRaw_ok w lo p).2 b (List.mem_of_mem_drop (List.mem_filter.mp hb).1)
theorem ROf_fr {li : Option (Nat × List Nat)} {si mi : Option Nat} {W : Nat → Nat → Prop} {h h' : jHp} (r : ROf li si mi h) (f : Fr W h h') (hW : ∀ a k, W a k → ¬ (a = 98 ∧ (k = 57 ∨ k = 59 ∨ k = 60 ∨ k = 61)) ∧ a ≠ 136) : ROf li si mi h' := by
  obtain ⟨r1, r2, r3, r4⟩ := r
  have c0 : ∀ k, (k = 57 ∨ k = 59 ∨ k = 60 ∨ k = 61) → hI h' 98 k = hI h 98 k := fun k hk => f.2 _ _ fun q => (hW _ _ q).1 ⟨rfl, hk⟩
  have c1 : ∀ k, hI h' 136 k = hI h 136 k := fun k => f.2 _ _ fun q => (hW _ _ q).2 rfl
  refine ⟨by rw [c0 57 (by simp)]; exact r1, fun q hq => ⟨by rw [c0 59 (by simp)]; exact (r2 q hq).1, fun k hk => by rw [c1]; exact (r2 q hq).2 k hk⟩, by rw [c0 60 (by simp)]; exact r3, by rw [c0 61 (by simp)]; exact r4⟩
def W135 (a _ : Nat) : Prop := a = 135
theorem MW_135 {A : AS} {h h1 h2 : jHp} (a : MW Wof A h h1) (f : Fr W135 h1 h2) : MW Wof A h h2 := MW_step a f fun a k hv => by
  unfold W135 at hv
  unfold Wof Wmk cM
  omega
theorem oM_31 {A : AS} (w : WF A) {x : Option Nat} (h : ∀ b, x = some b → b < aNb A) : oM x < 2 ^ 20 := oM_lt w h
theorem oAct_mem {A : AS} {s : OS} {p b : Nat} (h : oAct A s p = some b) : b ∈ s.2.2.2.2 p := by
  unfold oAct at h
  split at h
  · exact List.mem_of_head? h
  · cases h
theorem oNow_lt {A : AS} (w : WF A) {s : OS} (hm : ∀ p, p < aNp A → ∀ b ∈ s.2.2.2.2 p, b < aNb A) : oNow A s < 2 ^ 20 := by
  unfold oNow
  refine nfo_inv (fun _ m => m < 2 ^ 20) (aNp A) 0 (by decide) ?_ _ (Nat.le_refl _)
  intro i t hi ht
  exact Nat.or_lt_two_pow ht (oM_lt w fun b hb => hm i hi b (oAct_mem hb))
theorem oHld_lt {A : AS} (w : WF A) (e : Nat) : oHld A e < 2 ^ 20 := by
  unfold oHld
  refine nfo_inv (fun _ m => m < 2 ^ 20) (aNo A) 0 (by decide) ?_ _ (Nat.le_refl _)
  intro i t hi ht
  exact Nat.or_lt_two_pow ht (sTk_lt w _ _)
theorem e_oc_3 {A : AS} {h0 h : jHp} {li : Option (Nat × List Nat)} {si mi : Option Nat} (lo : LOk A li si mi) (hX : MW Wof A h0 h) (ro : ROf li si mi h) {s : OS} (he : s.1 < 2 ^ 20) (hh : s.2.1 < 2 ^ 20) (rq : ∀ p, p < aNp A → RQ A li si mi h p (s.2.2.2.2 p)) (v5 : Value) :
    ∃ h' v, s_loop 5 6 lc_M_outcome_3 lb_M_outcome_3 lu_M_outcome_3 ([.ref 98, .int (nI s.1), .int (nI s.2.1), .int (nI 0), .int (nI 0), v5], h) = some (.inl 0, ([.ref 98, .int (nI s.1), .int (nI s.2.1), .int (nI (oNow A s)), .int (nI (aNp A)), v], h')) ∧ Fr W135 h h' ∧ ∀ p, p < aNp A → RQ A li si mi h' p (oTl A s p) := by
  have k := hX.2.1
  have w := k.2.1
  have hn := w.1.1
  have h20 := w.2.2.1.1
  have hL := loop_wp (lb := 5) (lc := 6) (c := lc_M_outcome_3) (b := lb_M_outcome_3) (u := lu_M_outcome_3) (aNp A)
    (fun i st => ∃ h' v, st = ([.ref 98, .int (nI s.1), .int (nI s.2.1), .int (nI (nfo (fun p m => m ||| oM (oAct A s p)) i 0)), .int (nI i), v], h') ∧ Fr W135 h h' ∧ ∀ p, p < aNp A → RQ A li si mi h' p (if p < i then oTl A s p else s.2.2.2.2 p))
    (fun r => ∃ h' v, r = (.inl 0, ([.ref 98, .int (nI s.1), .int (nI s.2.1), .int (nI (oNow A s)), .int (nI (aNp A)), v], h')) ∧ Fr W135 h h' ∧ ∀ p, p < aNp A → RQ A li si mi h' p (oTl A s p))
    ?_ ?_ ([.ref 98, .int (nI s.1), .int (nI s.2.1), .int (nI 0), .int (nI 0), v5], h) ⟨h, v5, rfl, Fr_refl _ _, fun p hp => by simpa using rq p hp⟩
  · obtain ⟨r, h1, h', v, rfl, h2⟩ := hL
    exact ⟨h', v, h1, h2⟩
  · rintro i st hi ⟨h1, v, rfl, p1, p2⟩
    left
    have hX1 := MW_135 hX p1
    have k1 := hX1.2.1
    have hs1 := k1.1
    have ro1 := ROf_fr ro p1 (by unfold W135; intro a k q; omega)
    have q0 := k1.2.2.1.1
    have eb := e_M_bondOf k1 (S := s.2.1) (p := i) (by omega) (by omega)
    have hb31 := sBnd_31 w (S := s.2.1) (p := i)
    obtain ⟨j, j1, j2, j3⟩ := p2 i hi
    rw [if_neg (Nat.lt_irrefl i)] at j3
    have hmem := RQ_mem w lo (p2 i hi)
    rw [if_neg (Nat.lt_irrefl i)] at hmem
    have hst : nfo (fun p m => m ||| oM (oAct A s p)) (i + 1) 0 = nfo (fun p m => m ||| oM (oAct A s p)) i 0 ||| oM (oAct A s i) := rfl
    rw [hst]
    generalize nfo (fun p m => m ||| oM (oAct A s p)) i 0 = m at *
    by_cases hbn : sBnd A s.2.1 i = none
    · rw [hbn] at eb
      obtain ⟨h2, j', e1, e2, e3, e4, e5, e6⟩ := e_M_nextOf k1 lo ro1 hi j1 j2
      have hs2 := Fr_shape hs1 e2
      rw [j3] at e1 e5 e6
      have hact : oAct A s i = (s.2.2.2.2 i).head? := by simp [oAct, hbn]
      have htl : oTl A s i = (s.2.2.2.2 i).tail := by simp [oTl, hbn]
      have f2 : Fr W135 h1 h2 := Fr_mono e2 fun a k q => q.1
      rw [hact]
      have hoth : ∀ h3, Fr (fun a k => a = 135 ∧ k = i) h1 h3 → RQ A li si mi h3 i (s.2.2.2.2 i).tail → ∀ p, p < aNp A → RQ A li si mi h3 p (if p < i + 1 then oTl A s p else s.2.2.2.2 p) := by
        intro h3 f3 r3 p hp
        by_cases e : p = i
        · subst e; rw [if_pos (by omega), htl]; exact r3
        · obtain ⟨jj, g1, g2, g3⟩ := p2 p hp
          have : (if p < i + 1 then oTl A s p else s.2.2.2.2 p) = (if p < i then oTl A s p else s.2.2.2.2 p) := by
            by_cases z : p < i
            · rw [if_pos z, if_pos (by omega)]
            · rw [if_neg z, if_neg (by omega)]
          rw [this]
          exact ⟨jj, g1, by rw [Fr_I f3 (by omega)]; exact g2, g3⟩
      cases hr : s.2.2.2.2 i with
      | nil =>
        rw [hr] at e1 e5
        refine ⟨([.ref 98, .int (nI s.1), .int (nI s.2.1), .int (nI (m ||| oM ([] : List Nat).head?)), .int (nI (i + 1)), .int (-1)], h2), ?_, h2, _, rfl, Fr_trans p1 f2, hoth h2 e2 ⟨j', e4, e3, by rw [e5, hr]; rfl⟩⟩
        simp only [List.head?_nil, oI] at e1
        simp (disch := first | assumption | omega) [lstp, lc_M_outcome_3, lb_M_outcome_3, lu_M_outcome_3, j_meth, j_out, j_rok, j_pad, lg_sl, s_seq_w, isN_inl, isN_inr, s_if, jb, x_c, x_iloc, x_aloc, x_lloc, x_bin, x_un, o_add, o_sub, o_mul, o_and, o_or, o_xor, o_shl, o_shr, o_ushr, o_max, o_min, o_i2b, o_i2c, o_i2l, o_l2i, x_fld, j_fget, x_idx, j_aget, x_len, j_alen, x_ofb, x_ite, xs_nil, xs_cons, x_callv, x_calls, s_callv, s_calls, j_recv, j_ret, j_retv, b_cmp, b_and, b_or, b_not, b_ofi, b_ite, b_true, s_skip, s_set, j_ty, j_lset, j_kill, s_inc, s_fput, j_fput, s_fop, s_aput, j_aput, j_nar, s_aop, s_ret, s_retv, s_go, s_pop, x_linc, x_finc, Value.category, if_icmp.holds, List.flatMap_cons, List.flatMap_nil, List.length_cons, List.length_append, List.length_nil, List.set_cons_succ, List.set_cons_zero, List.getElem?_cons_succ, List.getElem?_cons_zero, List.replicate, ite_and', ite_or', ite_int', nI_leI, nI_ltI, nI_eq, nI_add, nI_1, pk_mul, nI_clamp, n_in', nI_pos', nI_pos, n_m1e, n_01, n_10, sT_98, sT_99, sT_100, sT_101, sT_102, sT_103, sT_104, sT_105, sT_106, sT_107, sT_108, sT_109, sT_110, sT_111, sT_112, sT_113, sT_114, sT_115, sT_116, sT_117, sT_118, sT_119, sT_120, sT_121, sT_122, sT_123, sT_124, sT_125, sT_126, sT_127, sT_128, sT_129, sT_130, sT_131, sT_132, sT_133, sT_134, sT_135, sT_136, sT_137, sT_138, sT_139, sT_140, sR_98_1, sR_98_4, sR_98_5, sR_98_6, sR_98_7, sR_98_8, sR_98_9, sR_98_10, sR_98_12, sR_98_13, sR_98_14, sR_98_15, sR_98_16, sR_98_17, sR_98_18, sR_98_19, sR_98_20, sR_98_21, sR_98_22, sR_98_23, sR_98_24, sR_98_25, sR_98_26, sR_98_27, sR_98_28, sR_98_29, sR_98_31, sR_98_34, sR_98_35, sR_98_36, sR_98_42, sR_98_44, sR_98_45, sR_98_47, sR_98_49, sR_98_51, sR_98_56, sR_98_58, sR_98_62, sR_98_65, sR_98_66, sR_98_69, hs1, q0, hi, eb, oI_s, oI_n, e1, oM]
      | cons b r =>
        rw [hr] at e1 e6 hmem
        have hb := (hmem b (by simp)).1
        obtain ⟨e7, e8⟩ := e6 b r rfl
        have hl5 := (oRaw_ok w lo i).1
        have f3 : Fr (fun a k => a = 135 ∧ k = i) h1 (hSetI h2 135 i (nI (j' + 1))) := Fr_trans e2 (Fr_set _ ⟨rfl, rfl⟩)
        refine ⟨([.ref 98, .int (nI s.1), .int (nI s.2.1), .int (nI (m ||| oM (b :: r).head?)), .int (nI (i + 1)), .int (nI b)], hSetI h2 135 i (nI (j' + 1))), ?_, _, _, rfl, Fr_trans p1 (Fr_mono f3 fun a k q => q.1), hoth _ f3 ⟨j' + 1, e7, by rw [hI_setI, if_pos ⟨rfl, rfl⟩], by rw [e8, hr]; rfl⟩⟩
        simp only [List.head?_cons, oI] at e1
        simp (disch := first | assumption | omega) [lstp, lc_M_outcome_3, lb_M_outcome_3, lu_M_outcome_3, j_meth, j_out, j_rok, j_pad, lg_sl, s_seq_w, isN_inl, isN_inr, s_if, jb, x_c, x_iloc, x_aloc, x_lloc, x_bin, x_un, o_add, o_sub, o_mul, o_and, o_or, o_xor, o_shl, o_shr, o_ushr, o_max, o_min, o_i2b, o_i2c, o_i2l, o_l2i, x_fld, j_fget, x_idx, j_aget, x_len, j_alen, x_ofb, x_ite, xs_nil, xs_cons, x_callv, x_calls, s_callv, s_calls, j_recv, j_ret, j_retv, b_cmp, b_and, b_or, b_not, b_ofi, b_ite, b_true, s_skip, s_set, j_ty, j_lset, j_kill, s_inc, s_fput, j_fput, s_fop, s_aput, j_aput, j_nar, s_aop, s_ret, s_retv, s_go, s_pop, x_linc, x_finc, Value.category, if_icmp.holds, List.flatMap_cons, List.flatMap_nil, List.length_cons, List.length_append, List.length_nil, List.set_cons_succ, List.set_cons_zero, List.getElem?_cons_succ, List.getElem?_cons_zero, List.replicate, ite_and', ite_or', ite_int', nI_leI, nI_ltI, nI_eq, nI_add, nI_1, pk_mul, nI_clamp, n_in', nI_pos', nI_pos, n_m1e, n_01, n_10, sT_98, sT_99, sT_100, sT_101, sT_102, sT_103, sT_104, sT_105, sT_106, sT_107, sT_108, sT_109, sT_110, sT_111, sT_112, sT_113, sT_114, sT_115, sT_116, sT_117, sT_118, sT_119, sT_120, sT_121, sT_122, sT_123, sT_124, sT_125, sT_126, sT_127, sT_128, sT_129, sT_130, sT_131, sT_132, sT_133, sT_134, sT_135, sT_136, sT_137, sT_138, sT_139, sT_140, sR_98_1, sR_98_4, sR_98_5, sR_98_6, sR_98_7, sR_98_8, sR_98_9, sR_98_10, sR_98_12, sR_98_13, sR_98_14, sR_98_15, sR_98_16, sR_98_17, sR_98_18, sR_98_19, sR_98_20, sR_98_21, sR_98_22, sR_98_23, sR_98_24, sR_98_25, sR_98_26, sR_98_27, sR_98_28, sR_98_29, sR_98_31, sR_98_34, sR_98_35, sR_98_36, sR_98_42, sR_98_44, sR_98_45, sR_98_47, sR_98_49, sR_98_51, sR_98_56, sR_98_58, sR_98_62, sR_98_65, sR_98_66, sR_98_69, hs1, hs2, q0, hi, eb, oI_s, oI_n, e1, e3, oM, n_bk, n_or]
    · have hne : ¬ oI (sBnd A s.2.1 i) = -1 := fun q => hbn ((oI_m1 hb31).mp q)
      have hact : oAct A s i = none := by
        unfold oAct
        rw [if_neg]
        simpa using hbn
      have htl : oTl A s i = s.2.2.2.2 i := by
        unfold oTl
        rw [if_neg]
        simpa using hbn
      rw [hact]
      refine ⟨([.ref 98, .int (nI s.1), .int (nI s.2.1), .int (nI (m ||| oM none)), .int (nI (i + 1)), v], h1), ?_, h1, v, rfl, p1, ?_⟩
      · simp (disch := first | assumption | omega) [lstp, lc_M_outcome_3, lb_M_outcome_3, lu_M_outcome_3, j_meth, j_out, j_rok, j_pad, lg_sl, s_seq_w, isN_inl, isN_inr, s_if, jb, x_c, x_iloc, x_aloc, x_lloc, x_bin, x_un, o_add, o_sub, o_mul, o_and, o_or, o_xor, o_shl, o_shr, o_ushr, o_max, o_min, o_i2b, o_i2c, o_i2l, o_l2i, x_fld, j_fget, x_idx, j_aget, x_len, j_alen, x_ofb, x_ite, xs_nil, xs_cons, x_callv, x_calls, s_callv, s_calls, j_recv, j_ret, j_retv, b_cmp, b_and, b_or, b_not, b_ofi, b_ite, b_true, s_skip, s_set, j_ty, j_lset, j_kill, s_inc, s_fput, j_fput, s_fop, s_aput, j_aput, j_nar, s_aop, s_ret, s_retv, s_go, s_pop, x_linc, x_finc, Value.category, if_icmp.holds, List.flatMap_cons, List.flatMap_nil, List.length_cons, List.length_append, List.length_nil, List.set_cons_succ, List.set_cons_zero, List.getElem?_cons_succ, List.getElem?_cons_zero, List.replicate, ite_and', ite_or', ite_int', nI_leI, nI_ltI, nI_eq, nI_add, nI_1, pk_mul, nI_clamp, n_in', nI_pos', nI_pos, n_m1e, n_01, n_10, sT_98, sT_99, sT_100, sT_101, sT_102, sT_103, sT_104, sT_105, sT_106, sT_107, sT_108, sT_109, sT_110, sT_111, sT_112, sT_113, sT_114, sT_115, sT_116, sT_117, sT_118, sT_119, sT_120, sT_121, sT_122, sT_123, sT_124, sT_125, sT_126, sT_127, sT_128, sT_129, sT_130, sT_131, sT_132, sT_133, sT_134, sT_135, sT_136, sT_137, sT_138, sT_139, sT_140, sR_98_1, sR_98_4, sR_98_5, sR_98_6, sR_98_7, sR_98_8, sR_98_9, sR_98_10, sR_98_12, sR_98_13, sR_98_14, sR_98_15, sR_98_16, sR_98_17, sR_98_18, sR_98_19, sR_98_20, sR_98_21, sR_98_22, sR_98_23, sR_98_24, sR_98_25, sR_98_26, sR_98_27, sR_98_28, sR_98_29, sR_98_31, sR_98_34, sR_98_35, sR_98_36, sR_98_42, sR_98_44, sR_98_45, sR_98_47, sR_98_49, sR_98_51, sR_98_56, sR_98_58, sR_98_62, sR_98_65, sR_98_66, sR_98_69, hs1, q0, hi, eb, hne, oM]
      · intro p hp
        have := p2 p hp
        by_cases z : p < i
        · rw [if_pos (by omega)]; rw [if_pos z] at this; exact this
        · rw [if_neg z] at this
          by_cases e : p = i
          · subst e; rw [if_pos (by omega), htl]; exact this
          · rw [if_neg (by omega)]; exact this
  · rintro st ⟨h1, v, rfl, p1, p2⟩
    have hX1 := MW_135 hX p1
    have hs1 := hX1.2.1.1
    have q0 := hX1.2.1.2.2.1.1
    refine ⟨_, ?_, h1, v, rfl, p1, fun p hp => by have := p2 p hp; rw [if_pos hp] at this; exact this⟩
    unfold oNow
    simp (disch := first | assumption | omega) [lstp, lc_M_outcome_3, lb_M_outcome_3, lu_M_outcome_3, j_meth, j_out, j_rok, j_pad, lg_sl, s_seq_w, isN_inl, isN_inr, s_if, jb, x_c, x_iloc, x_aloc, x_lloc, x_bin, x_un, o_add, o_sub, o_mul, o_and, o_or, o_xor, o_shl, o_shr, o_ushr, o_max, o_min, o_i2b, o_i2c, o_i2l, o_l2i, x_fld, j_fget, x_idx, j_aget, x_len, j_alen, x_ofb, x_ite, xs_nil, xs_cons, x_callv, x_calls, s_callv, s_calls, j_recv, j_ret, j_retv, b_cmp, b_and, b_or, b_not, b_ofi, b_ite, b_true, s_skip, s_set, j_ty, j_lset, j_kill, s_inc, s_fput, j_fput, s_fop, s_aput, j_aput, j_nar, s_aop, s_ret, s_retv, s_go, s_pop, x_linc, x_finc, Value.category, if_icmp.holds, List.flatMap_cons, List.flatMap_nil, List.length_cons, List.length_append, List.length_nil, List.set_cons_succ, List.set_cons_zero, List.getElem?_cons_succ, List.getElem?_cons_zero, List.replicate, ite_and', ite_or', ite_int', nI_leI, nI_ltI, nI_eq, nI_add, nI_1, pk_mul, nI_clamp, n_in', nI_pos', nI_pos, n_m1e, n_01, n_10, sT_98, sT_99, sT_100, sT_101, sT_102, sT_103, sT_104, sT_105, sT_106, sT_107, sT_108, sT_109, sT_110, sT_111, sT_112, sT_113, sT_114, sT_115, sT_116, sT_117, sT_118, sT_119, sT_120, sT_121, sT_122, sT_123, sT_124, sT_125, sT_126, sT_127, sT_128, sT_129, sT_130, sT_131, sT_132, sT_133, sT_134, sT_135, sT_136, sT_137, sT_138, sT_139, sT_140, sR_98_1, sR_98_4, sR_98_5, sR_98_6, sR_98_7, sR_98_8, sR_98_9, sR_98_10, sR_98_12, sR_98_13, sR_98_14, sR_98_15, sR_98_16, sR_98_17, sR_98_18, sR_98_19, sR_98_20, sR_98_21, sR_98_22, sR_98_23, sR_98_24, sR_98_25, sR_98_26, sR_98_27, sR_98_28, sR_98_29, sR_98_31, sR_98_34, sR_98_35, sR_98_36, sR_98_42, sR_98_44, sR_98_45, sR_98_47, sR_98_49, sR_98_51, sR_98_56, sR_98_58, sR_98_62, sR_98_65, sR_98_66, sR_98_69, hs1, q0]
theorem e_oc_4 {A : AS} {h0 h : jHp} (hX : MX A h0 h) {ev : Nat} (he : ev < 2 ^ 20) (v3 : Int32) (v5 : Value) :
    ∃ h', s_loop 7 8 lc_M_outcome_4 lb_M_outcome_4 lu_M_outcome_4 ([.ref 98, .int (nI ev), .int (nI 0), .int v3, .int (nI 0), v5], h) = some (.inl 0, ([.ref 98, .int (nI ev), .int (nI (oHld A ev)), .int v3, .int (nI (aNo A)), v5], h')) ∧ MX A h0 h' := by
  have w := hX.2.1.2.1
  have hno := w.2.1
  have hL := loop_nx (lb := 7) (lc := 8) (c := lc_M_outcome_4) (b := lb_M_outcome_4) (u := lu_M_outcome_4) (aNo A) (fun i (m : Nat) (_ : Unit) h => (([.ref 98, .int (nI ev), .int (nI m), .int v3, .int (nI i), v5], h) : jS)) (MX A h0) (fun f m => m ||| sTk A f (ev &&& sOff A f)) (fun _ _ => True)
    (fun i m _ h1 hi hX _ => by
      have k1 := hX.2.1
      have hs1 := k1.1
      have q2 := k1.2.2.2.1.1
      have e1 := e_M_bondsOf k1 (f := i) (by omega)
      have hl1 : ev &&& sOff A i < 2 ^ 20 := Nat.and_lt_two_pow _ (sOff_lt w i)
      obtain ⟨h2, e2, hX2⟩ := x_M_takeOf k1 hX.2.2 hi (S := ev &&& sOff A i) (by omega)
      refine ⟨trivial, (), h2, MX_trans hX hX2, ?_⟩
      simp (disch := first | assumption | omega) [lstp, lc_M_outcome_4, lb_M_outcome_4, lu_M_outcome_4, j_meth, j_out, j_rok, j_pad, lg_sl, s_seq_w, isN_inl, isN_inr, s_if, jb, x_c, x_iloc, x_aloc, x_lloc, x_bin, x_un, o_add, o_sub, o_mul, o_and, o_or, o_xor, o_shl, o_shr, o_ushr, o_max, o_min, o_i2b, o_i2c, o_i2l, o_l2i, x_fld, j_fget, x_idx, j_aget, x_len, j_alen, x_ofb, x_ite, xs_nil, xs_cons, x_callv, x_calls, s_callv, s_calls, j_recv, j_ret, j_retv, b_cmp, b_and, b_or, b_not, b_ofi, b_ite, b_true, s_skip, s_set, j_ty, j_lset, j_kill, s_inc, s_fput, j_fput, s_fop, s_aput, j_aput, j_nar, s_aop, s_ret, s_retv, s_go, s_pop, x_linc, x_finc, Value.category, if_icmp.holds, List.flatMap_cons, List.flatMap_nil, List.length_cons, List.length_append, List.length_nil, List.set_cons_succ, List.set_cons_zero, List.getElem?_cons_succ, List.getElem?_cons_zero, List.replicate, ite_and', ite_or', ite_int', nI_leI, nI_ltI, nI_eq, nI_add, nI_1, pk_mul, nI_clamp, n_in', nI_pos', nI_pos, n_m1e, n_01, n_10, sT_98, sT_99, sT_100, sT_101, sT_102, sT_103, sT_104, sT_105, sT_106, sT_107, sT_108, sT_109, sT_110, sT_111, sT_112, sT_113, sT_114, sT_115, sT_116, sT_117, sT_118, sT_119, sT_120, sT_121, sT_122, sT_123, sT_124, sT_125, sT_126, sT_127, sT_128, sT_129, sT_130, sT_131, sT_132, sT_133, sT_134, sT_135, sT_136, sT_137, sT_138, sT_139, sT_140, sR_98_1, sR_98_4, sR_98_5, sR_98_6, sR_98_7, sR_98_8, sR_98_9, sR_98_10, sR_98_12, sR_98_13, sR_98_14, sR_98_15, sR_98_16, sR_98_17, sR_98_18, sR_98_19, sR_98_20, sR_98_21, sR_98_22, sR_98_23, sR_98_24, sR_98_25, sR_98_26, sR_98_27, sR_98_28, sR_98_29, sR_98_31, sR_98_34, sR_98_35, sR_98_36, sR_98_42, sR_98_44, sR_98_45, sR_98_47, sR_98_49, sR_98_51, sR_98_56, sR_98_58, sR_98_62, sR_98_65, sR_98_66, sR_98_69, hs1, q2, hi, e1, n_and, n_or, e2])
    (fun m _ h1 hX _ => by
      have hs1 := hX.2.1.1
      have q2 := hX.2.1.2.2.2.1.1
      simp (disch := first | assumption | omega) [lstp, lc_M_outcome_4, lb_M_outcome_4, lu_M_outcome_4, j_meth, j_out, j_rok, j_pad, lg_sl, s_seq_w, isN_inl, isN_inr, s_if, jb, x_c, x_iloc, x_aloc, x_lloc, x_bin, x_un, o_add, o_sub, o_mul, o_and, o_or, o_xor, o_shl, o_shr, o_ushr, o_max, o_min, o_i2b, o_i2c, o_i2l, o_l2i, x_fld, j_fget, x_idx, j_aget, x_len, j_alen, x_ofb, x_ite, xs_nil, xs_cons, x_callv, x_calls, s_callv, s_calls, j_recv, j_ret, j_retv, b_cmp, b_and, b_or, b_not, b_ofi, b_ite, b_true, s_skip, s_set, j_ty, j_lset, j_kill, s_inc, s_fput, j_fput, s_fop, s_aput, j_aput, j_nar, s_aop, s_ret, s_retv, s_go, s_pop, x_linc, x_finc, Value.category, if_icmp.holds, List.flatMap_cons, List.flatMap_nil, List.length_cons, List.length_append, List.length_nil, List.set_cons_succ, List.set_cons_zero, List.getElem?_cons_succ, List.getElem?_cons_zero, List.replicate, ite_and', ite_or', ite_int', nI_leI, nI_ltI, nI_eq, nI_add, nI_1, pk_mul, nI_clamp, n_in', nI_pos', nI_pos, n_m1e, n_01, n_10, sT_98, sT_99, sT_100, sT_101, sT_102, sT_103, sT_104, sT_105, sT_106, sT_107, sT_108, sT_109, sT_110, sT_111, sT_112, sT_113, sT_114, sT_115, sT_116, sT_117, sT_118, sT_119, sT_120, sT_121, sT_122, sT_123, sT_124, sT_125, sT_126, sT_127, sT_128, sT_129, sT_130, sT_131, sT_132, sT_133, sT_134, sT_135, sT_136, sT_137, sT_138, sT_139, sT_140, sR_98_1, sR_98_4, sR_98_5, sR_98_6, sR_98_7, sR_98_8, sR_98_9, sR_98_10, sR_98_12, sR_98_13, sR_98_14, sR_98_15, sR_98_16, sR_98_17, sR_98_18, sR_98_19, sR_98_20, sR_98_21, sR_98_22, sR_98_23, sR_98_24, sR_98_25, sR_98_26, sR_98_27, sR_98_28, sR_98_29, sR_98_31, sR_98_34, sR_98_35, sR_98_36, sR_98_42, sR_98_44, sR_98_45, sR_98_47, sR_98_49, sR_98_51, sR_98_56, sR_98_58, sR_98_62, sR_98_65, sR_98_66, sR_98_69, hs1, q2]) 0 () h hX trivial
  obtain ⟨-, h', hX1, -, e⟩ := hL
  exact ⟨h', e, hX1⟩
