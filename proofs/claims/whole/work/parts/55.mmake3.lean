/-! the reference's tables: what is TAKEN -/
def mxN (q : Nat → Bool) : Nat → Nat
  | 0 => 0
  | t + 1 => if q (t + 1) then t + 1 else mxN q t
theorem mxN_le (q : Nat → Bool) : ∀ n, mxN q n ≤ n := by
  intro n
  induction n with
  | zero => exact Nat.le_refl _
  | succ n ih => simp only [mxN]; split <;> omega
theorem mxN_of {q : Nat → Bool} {t : Nat} (h : q t = true) : mxN q t = t := by
  cases t with
  | zero => rfl
  | succ t => simp [mxN, h]
theorem mxN_skip {q : Nat → Bool} {a : Nat} : ∀ {n}, a ≤ n → (∀ t, a < t → t ≤ n → q t = false) → mxN q n = mxN q a := by
  intro n
  induction n with
  | zero => intro h _; have : a = 0 := by omega
            subst this; rfl
  | succ n ih =>
    intro h h2
    by_cases e : a = n + 1
    · subst e; rfl
    · simp only [mxN, h2 (n + 1) (by omega) (Nat.le_refl _)]
      exact ih (by omega) fun t h3 h4 => h2 t h3 (by omega)
theorem mxN_spec {q : Nat → Bool} (h0 : q 0 = true) : ∀ n, q (mxN q n) = true ∧ ∀ t, t ≤ n → q t = true → t ≤ mxN q n := by
  intro n
  induction n with
  | zero => exact ⟨h0, fun t h _ => h⟩
  | succ n ih =>
    simp only [mxN]
    by_cases h : q (n + 1) = true
    · rw [if_pos h]; exact ⟨h, fun t h _ => h⟩
    · rw [if_neg h]
      refine ⟨ih.1, fun t h1 h2 => ?_⟩
      by_cases e : t = n + 1
      · subst e; exact absurd h2 h
      · exact ih.2 t (by omega) h2
theorem and_two (a b : Nat) : a &&& b = 2 * (a / 2 &&& b / 2) + (a % 2) * (b % 2) := by
  have h1 : (a &&& b) / 2 = a / 2 &&& b / 2 := Nat.and_div_two
  have h2 : (a &&& b) % 2 = (a % 2) * (b % 2) := by
    have := Nat.and_mod_two_pow (a := a) (b := b) (n := 1)
    simp only [Nat.pow_one] at this
    rw [this]
    have ha : a % 2 = 0 ∨ a % 2 = 1 := by omega
    have hb : b % 2 = 0 ∨ b % 2 = 1 := by omega
    rcases ha with ha | ha <;> rcases hb with hb | hb <;> simp [ha, hb]
  omega
theorem sub_pred : ∀ (b s t : Nat), b &&& s = b → t &&& s = t → t < b → t ≤ (b - 1) &&& s := by
  intro b
  induction b using Nat.strongRecOn with
  | _ b ih =>
    intro s t hb ht hlt
    rw [and_two] at hb ht ⊢
    have hs2 : s % 2 = 0 ∨ s % 2 = 1 := by omega
    have hb2 : b % 2 = 0 ∨ b % 2 = 1 := by omega
    have ht2 : t % 2 = 0 ∨ t % 2 = 1 := by omega
    have b1 : b / 2 &&& s / 2 = b / 2 := by
      rcases hs2 with h | h <;> rcases hb2 with h' | h' <;> simp [h, h'] at hb <;> omega
    have t1 : t / 2 &&& s / 2 = t / 2 := by
      rcases hs2 with h | h <;> rcases ht2 with h' | h' <;> simp [h, h'] at ht <;> omega
    rcases hb2 with h' | h'
    · have e1 : (b - 1) / 2 = b / 2 - 1 := by omega
      have e2 : (b - 1) % 2 = 1 := by omega
      rw [e1, e2]
      have := ih (b / 2) (by omega) (s / 2) (t / 2) b1 t1 (by omega)
      rcases hs2 with h | h <;> rcases ht2 with h2 | h2 <;> simp [h, h2] at ht ⊢ <;> omega
    · have e1 : (b - 1) / 2 = b / 2 := by omega
      have e2 : (b - 1) % 2 = 0 := by omega
      rw [e1, e2, b1]
      omega
theorem sub_le {b s : Nat} (h : b &&& s = b) : b ≤ s := by rw [← h]; exact Nat.and_le_right
theorem sub_and (b s : Nat) : (b &&& s) &&& s = b &&& s := by rw [Nat.and_assoc, Nat.and_self]
/-- the place-masks that are ALLOWED and lie in s -/
def sQ (A : AS) (f s t : Nat) : Bool := t &&& s == t && sAlw A f (sSpr (sOrd A f) t)
def sTkM (A : AS) (f s : Nat) : Nat := sSpr (sOrd A f) (mxN (sQ A f s) s)
def sTk (A : AS) (f S : Nat) : Nat := sTkM A f (sGat (sOrd A f) S)
theorem sSpr_lt {l : List Nat} (hb : ∀ b ∈ l, b < 20) (s : Nat) : sSpr l s < 2 ^ 20 := by
  unfold sSpr
  refine nfo_inv (fun _ m => m < 2 ^ 20) l.length 0 (by decide) ?_ _ (Nat.le_refl _)
  intro i t hi ht
  split
  · exact Nat.or_lt_two_pow ht (Nat.pow_lt_pow_right (by decide) (hb _ (getD_mem' hi)))
  · exact ht
theorem sGat_lt {l : List Nat} (S : Nat) : sGat l S < 2 ^ l.length := by
  unfold sGat
  refine nfo_inv (fun _ m => m < 2 ^ l.length) l.length 0 (Nat.two_pow_pos _) ?_ _ (Nat.le_refl _)
  intro i t hi ht
  split
  · exact Nat.or_lt_two_pow ht (Nat.pow_lt_pow_right (by decide) (by omega))
  · exact ht
theorem sSpr_0 (l : List Nat) : sSpr l 0 = 0 := by
  unfold sSpr
  refine nfo_inv (fun _ m => m = 0) l.length 0 rfl ?_ _ (Nat.le_refl _)
  intro i t hi ht
  simp [ht]
theorem sQ_0 (A : AS) (f s : Nat) : sQ A f s 0 = true := by simp [sQ, sSpr_0, sAlw]
def Wal (a _ : Nat) : Prop := a = 134
theorem Wal_cM : ∀ a k, cM a k → ¬ Wal a k := by
  unfold cM Wal
  intro a k h1 h2
  omega
theorem e_mk_3 {A : AS} {h : jHp} (k : RMK A h) {f : Nat} (hf : f < 4) (ro : ROrd (sOrd A f) h f) (j : Value) :
    ∃ h', s_loop 5 6 lc_M_make1_3 lb_M_make1_3 lu_M_make1_3 ([.ref 98, .int (nI f), .int (nI (sOrd A f).length), .int (nI 0), j], h) = some (.inl 0, ([.ref 98, .int (nI f), .int (nI (sOrd A f).length), .int (nI (2 ^ (sOrd A f).length)), j], h')) ∧ Fr Wal h h' ∧ (∀ s, s < 2 ^ (sOrd A f).length → hI h' 134 s = if sAlw A f (sSpr (sOrd A f) s) then 1 else 0) := by
  have w := k.2.1
  have h20 := w.2.2.1.1
  obtain ⟨hl, hm⟩ := sOrd_ok w f
  have hb : ∀ b ∈ sOrd A f, b < 20 := fun b h => by have := (hm b h).1; omega
  have hp : 2 ^ (sOrd A f).length ≤ 2 ^ 8 := Nat.pow_le_pow_right (by decide) hl
  have hX := loop_wp (lb := 5) (lc := 6) (c := lc_M_make1_3) (b := lb_M_make1_3) (u := lu_M_make1_3) (2 ^ (sOrd A f).length)
    (fun i st => ∃ h', st = ([.ref 98, .int (nI f), .int (nI (sOrd A f).length), .int (nI i), j], h') ∧ Fr Wal h h' ∧ (∀ s, s < i → hI h' 134 s = if sAlw A f (sSpr (sOrd A f) s) then 1 else 0))
    (fun r => ∃ h', r = (.inl 0, ([.ref 98, .int (nI f), .int (nI (sOrd A f).length), .int (nI (2 ^ (sOrd A f).length)), j], h')) ∧ Fr Wal h h' ∧ (∀ s, s < 2 ^ (sOrd A f).length → hI h' 134 s = if sAlw A f (sSpr (sOrd A f) s) then 1 else 0))
    ?_ ?_ ([.ref 98, .int (nI f), .int (nI (sOrd A f).length), .int (nI 0), j], h) ⟨h, rfl, Fr_refl _ _, fun j hj => by cases hj⟩
  · obtain ⟨r, h1, h', rfl, h2⟩ := hX
    exact ⟨h', h1, h2⟩
  · rintro i st hi ⟨h1, rfl, p1, p2⟩
    left
    have k1 := RMK_fr k p1 Wal_cM
    have hs := k1.1
    have ro1 : ROrd (sOrd A f) h1 f := ⟨by rw [Fr_I p1 (by simp [Wal])]; exact ro.1, fun k hk => by rw [Fr_I p1 (by simp [Wal])]; exact ro.2 k hk⟩
    have e1 := e_M_spread hs hf hl hb ro1 (s := i) (by omega)
    have hlt := sSpr_lt hb i
    have e2 := e_M_isAllowed k1 hf (S := sSpr (sOrd A f) i) (by omega)
    have c1 : ((1 : Int32) &&& 1) = 1 := by decide
    have c0 : ((0 : Int32) &&& 1) = 0 := by decide
    refine ⟨([.ref 98, .int (nI f), .int (nI (sOrd A f).length), .int (nI (i + 1)), j], hSetI h1 134 i (if sAlw A f (sSpr (sOrd A f) i) then 1 else 0)), ?_, _, rfl, Fr_trans p1 (Fr_set _ rfl), ?_⟩
    · cases hz : sAlw A f (sSpr (sOrd A f) i)
      · rw [hz] at e2
        simp (disch := first | assumption | omega) [lstp, lc_M_make1_3, lb_M_make1_3, lu_M_make1_3, j_meth, j_out, j_rok, j_pad, lg_sl, s_seq_w, isN_inl, isN_inr, s_if, jb, x_c, x_iloc, x_aloc, x_lloc, x_bin, x_un, o_add, o_sub, o_mul, o_and, o_or, o_xor, o_shl, o_shr, o_ushr, o_max, o_min, o_i2b, o_i2c, o_i2l, o_l2i, x_fld, j_fget, x_idx, j_aget, x_len, j_alen, x_ofb, x_ite, xs_nil, xs_cons, x_callv, x_calls, s_callv, s_calls, j_recv, j_ret, j_retv, b_cmp, b_and, b_or, b_not, b_ofi, b_ite, b_true, s_skip, s_set, j_ty, j_lset, j_kill, s_inc, s_fput, j_fput, s_fop, s_aput, j_aput, j_nar, s_aop, s_ret, s_retv, s_go, s_pop, x_linc, x_finc, Value.category, if_icmp.holds, List.flatMap_cons, List.flatMap_nil, List.length_cons, List.length_append, List.length_nil, List.set_cons_succ, List.set_cons_zero, List.getElem?_cons_succ, List.getElem?_cons_zero, List.replicate, ite_and', ite_or', ite_int', nI_leI, nI_ltI, nI_eq, nI_add, nI_1, pk_mul, nI_clamp, n_in', nI_pos', nI_pos, n_m1e, n_01, n_10, sT_98, sT_99, sT_100, sT_101, sT_102, sT_103, sT_104, sT_105, sT_106, sT_107, sT_108, sT_109, sT_110, sT_111, sT_112, sT_113, sT_114, sT_115, sT_116, sT_117, sT_118, sT_119, sT_120, sT_121, sT_122, sT_123, sT_124, sT_125, sT_126, sT_127, sT_128, sT_129, sT_130, sT_131, sT_132, sT_133, sT_134, sT_135, sT_136, sT_137, sT_138, sT_139, sT_140, sR_98_1, sR_98_4, sR_98_5, sR_98_6, sR_98_7, sR_98_8, sR_98_9, sR_98_10, sR_98_12, sR_98_13, sR_98_14, sR_98_15, sR_98_16, sR_98_17, sR_98_18, sR_98_19, sR_98_20, sR_98_21, sR_98_22, sR_98_23, sR_98_24, sR_98_25, sR_98_26, sR_98_27, sR_98_28, sR_98_29, sR_98_31, sR_98_34, sR_98_35, sR_98_36, sR_98_42, sR_98_44, sR_98_45, sR_98_47, sR_98_49, sR_98_51, sR_98_56, sR_98_58, sR_98_62, sR_98_65, sR_98_66, sR_98_69, hs, n_bk, hi, e1, e2, c0]
      · rw [hz] at e2
        simp (disch := first | assumption | omega) [lstp, lc_M_make1_3, lb_M_make1_3, lu_M_make1_3, j_meth, j_out, j_rok, j_pad, lg_sl, s_seq_w, isN_inl, isN_inr, s_if, jb, x_c, x_iloc, x_aloc, x_lloc, x_bin, x_un, o_add, o_sub, o_mul, o_and, o_or, o_xor, o_shl, o_shr, o_ushr, o_max, o_min, o_i2b, o_i2c, o_i2l, o_l2i, x_fld, j_fget, x_idx, j_aget, x_len, j_alen, x_ofb, x_ite, xs_nil, xs_cons, x_callv, x_calls, s_callv, s_calls, j_recv, j_ret, j_retv, b_cmp, b_and, b_or, b_not, b_ofi, b_ite, b_true, s_skip, s_set, j_ty, j_lset, j_kill, s_inc, s_fput, j_fput, s_fop, s_aput, j_aput, j_nar, s_aop, s_ret, s_retv, s_go, s_pop, x_linc, x_finc, Value.category, if_icmp.holds, List.flatMap_cons, List.flatMap_nil, List.length_cons, List.length_append, List.length_nil, List.set_cons_succ, List.set_cons_zero, List.getElem?_cons_succ, List.getElem?_cons_zero, List.replicate, ite_and', ite_or', ite_int', nI_leI, nI_ltI, nI_eq, nI_add, nI_1, pk_mul, nI_clamp, n_in', nI_pos', nI_pos, n_m1e, n_01, n_10, sT_98, sT_99, sT_100, sT_101, sT_102, sT_103, sT_104, sT_105, sT_106, sT_107, sT_108, sT_109, sT_110, sT_111, sT_112, sT_113, sT_114, sT_115, sT_116, sT_117, sT_118, sT_119, sT_120, sT_121, sT_122, sT_123, sT_124, sT_125, sT_126, sT_127, sT_128, sT_129, sT_130, sT_131, sT_132, sT_133, sT_134, sT_135, sT_136, sT_137, sT_138, sT_139, sT_140, sR_98_1, sR_98_4, sR_98_5, sR_98_6, sR_98_7, sR_98_8, sR_98_9, sR_98_10, sR_98_12, sR_98_13, sR_98_14, sR_98_15, sR_98_16, sR_98_17, sR_98_18, sR_98_19, sR_98_20, sR_98_21, sR_98_22, sR_98_23, sR_98_24, sR_98_25, sR_98_26, sR_98_27, sR_98_28, sR_98_29, sR_98_31, sR_98_34, sR_98_35, sR_98_36, sR_98_42, sR_98_44, sR_98_45, sR_98_47, sR_98_49, sR_98_51, sR_98_56, sR_98_58, sR_98_62, sR_98_65, sR_98_66, sR_98_69, hs, n_bk, hi, e1, e2, c1]
    · intro s hs
      rw [hI_setI]
      by_cases e : s = i
      · subst e; simp
      · rw [if_neg (by omega)]; exact p2 s (by omega)
  · rintro st ⟨h1, rfl, p1, p2⟩
    have k1 := RMK_fr k p1 Wal_cM
    have hs := k1.1
    refine ⟨(.inl 0, ([.ref 98, .int (nI f), .int (nI (sOrd A f).length), .int (nI (2 ^ (sOrd A f).length)), j], h1)), ?_, h1, rfl, p1, p2⟩
    simp (disch := first | assumption | omega) [lstp, lc_M_make1_3, j_meth, j_out, j_rok, j_pad, lg_sl, s_seq_w, isN_inl, isN_inr, s_if, jb, x_c, x_iloc, x_aloc, x_lloc, x_bin, x_un, o_add, o_sub, o_mul, o_and, o_or, o_xor, o_shl, o_shr, o_ushr, o_max, o_min, o_i2b, o_i2c, o_i2l, o_l2i, x_fld, j_fget, x_idx, j_aget, x_len, j_alen, x_ofb, x_ite, xs_nil, xs_cons, x_callv, x_calls, s_callv, s_calls, j_recv, j_ret, j_retv, b_cmp, b_and, b_or, b_not, b_ofi, b_ite, b_true, s_skip, s_set, j_ty, j_lset, j_kill, s_inc, s_fput, j_fput, s_fop, s_aput, j_aput, j_nar, s_aop, s_ret, s_retv, s_go, s_pop, x_linc, x_finc, Value.category, if_icmp.holds, List.flatMap_cons, List.flatMap_nil, List.length_cons, List.length_append, List.length_nil, List.set_cons_succ, List.set_cons_zero, List.getElem?_cons_succ, List.getElem?_cons_zero, List.replicate, ite_and', ite_or', ite_int', nI_leI, nI_ltI, nI_eq, nI_add, nI_1, pk_mul, nI_clamp, n_in', nI_pos', nI_pos, n_m1e, n_01, n_10, sT_98, sT_99, sT_100, sT_101, sT_102, sT_103, sT_104, sT_105, sT_106, sT_107, sT_108, sT_109, sT_110, sT_111, sT_112, sT_113, sT_114, sT_115, sT_116, sT_117, sT_118, sT_119, sT_120, sT_121, sT_122, sT_123, sT_124, sT_125, sT_126, sT_127, sT_128, sT_129, sT_130, sT_131, sT_132, sT_133, sT_134, sT_135, sT_136, sT_137, sT_138, sT_139, sT_140, sR_98_1, sR_98_4, sR_98_5, sR_98_6, sR_98_7, sR_98_8, sR_98_9, sR_98_10, sR_98_12, sR_98_13, sR_98_14, sR_98_15, sR_98_16, sR_98_17, sR_98_18, sR_98_19, sR_98_20, sR_98_21, sR_98_22, sR_98_23, sR_98_24, sR_98_25, sR_98_26, sR_98_27, sR_98_28, sR_98_29, sR_98_31, sR_98_34, sR_98_35, sR_98_36, sR_98_42, sR_98_44, sR_98_45, sR_98_47, sR_98_49, sR_98_51, sR_98_56, sR_98_58, sR_98_62, sR_98_65, sR_98_66, sR_98_69, hs, n_bk]
