/-! false LISTS: the code -/
def rkH (A : AS) (H p : Nat) : Nat := match sBnd A H p with
  | none => (aLl A p).length
  | some b => (sPlc A b).getD 6
theorem e_O_rankHeldBy {A : AS} {h : jHp} (x : MK A h) {H p : Nat} (hp : p < aNp A) (mH : sMat A H) (c8 : hI h 84 8 = nI (slM A H)) : f_O_rankHeldBy [.ref 84, .int (nI p)] h = some (some (.int (nI (rkH A H p))), h) := by
  have w := x.1.2.1
  have hs := x.1.1
  have cb := x.1.2.2.1
  have cp := x.1.2.2.2
  have hn := w.1.1
  have h20 := w.2.2.1.1
  have s1 := (cb.2.2.2 p (by omega)).2.2
  have l1 := (cp.2.2.2.1 p (by omega)).2.1
  have hX : nI (slM A H) &&& nI (slP A p) = nI (slM A (oM (sBnd A H p))) := by rw [n_and, sl_and w, mine_ok mH]
  unfold rkH
  cases hb : sBnd A H p with
  | none =>
    rw [hb] at hX
    have h0 : slM A (oM none) = 0 := (slM_z w (Nat.two_pow_pos _)).mpr rfl
    rw [h0] at hX
    simp only
    simp (disch := first | assumption | omega) [f_O_rankHeldBy, body_O_rankHeldBy, j_meth, j_out, j_rok, j_pad, lg_sl, s_seq_w, isN_inl, isN_inr, s_if, jb, x_c, x_iloc, x_aloc, x_lloc, x_bin, x_un, o_add, o_sub, o_mul, o_and, o_or, o_xor, o_shl, o_shr, o_ushr, o_max, o_min, o_i2b, o_i2c, o_i2l, o_l2i, x_fld, j_fget, x_idx, j_aget, x_len, j_alen, x_ofb, x_ite, xs_nil, xs_cons, x_callv, x_calls, s_callv, s_calls, j_recv, j_ret, j_retv, b_cmp, b_and, b_or, b_not, b_ofi, b_ite, b_true, s_skip, s_set, j_ty, j_lset, j_kill, s_inc, s_fput, j_fput, s_fop, s_aput, j_aput, j_nar, s_aop, s_ret, s_retv, s_go, s_pop, x_linc, x_finc, Value.category, if_icmp.holds, List.flatMap_cons, List.flatMap_nil, List.length_cons, List.length_append, List.length_nil, List.set_cons_succ, List.set_cons_zero, List.getElem?_cons_succ, List.getElem?_cons_zero, List.replicate, ite_and', ite_or', ite_int', nI_leI, nI_ltI, nI_eq, nI_add, nI_1, pk_mul, nI_clamp, n_in', nI_pos', nI_pos, n_m1e, n_01, n_10, sT_1, sR_1_0, sR_1_1, sR_1_2, sR_1_3, sR_1_4, sR_1_5, sR_1_6, sR_1_7, sR_1_8, sR_1_9, sT_2, sT_3, sT_4, sT_5, sT_6, sT_7, sT_8, sT_9, sT_10, sT_11, sT_12, sT_13, sT_14, sR_2_1, sR_2_2, sR_2_3, sR_2_4, sR_2_5, sR_2_6, sR_2_7, sR_2_8, sR_2_9, sR_2_10, sR_2_11, sR_2_12, sT_15, sT_16, sT_17, sT_18, sT_19, sT_20, sT_21, sT_22, sT_23, sR_15_1, sR_15_2, sR_15_3, sR_15_4, sR_15_5, sR_15_6, sR_15_7, sR_15_8, sT_24, sT_25, sT_26, sT_27, sT_28, sT_29, sR_24_1, sR_24_2, sR_24_3, sR_24_4, sR_24_5, sT_71, sT_72, sR_71_0, sR_71_1, sR_71_2, sR_71_3, sR_71_4, sT_73, sT_74, sT_75, sR_73_0, sR_73_1, sR_73_2, sR_73_3, sR_73_4, sR_73_5, sT_84, sT_85, sT_86, sT_87, sR_84_0, sR_84_1, sR_84_2, sR_84_3, sR_84_4, sR_84_5, sT_88, sT_89, sR_88_0, sT_90, sT_91, sR_90_0, c8, s1, hX, nI_0, l1]
  | some b =>
    rw [hb] at hX
    have hbl := sBnd_lt w hb
    have h1 : slM A (oM (some b)) = 2 ^ sSlot A b := slM_1 w hbl
    rw [h1] at hX
    have hsl := sSlot_lt w hbl
    have hp2 : 2 ^ sSlot A b < 2 ^ 32 := Nat.pow_lt_pow_right (by decide) hsl
    have hne : (nI (2 ^ sSlot A b) = 0) = False := by
      have hp := Nat.two_pow_pos (sSlot A b)
      exact eq_false fun e => by
        have := (n_eq0 hp2).mp e
        omega
    have en := e_J_ntz h (x := 2 ^ sSlot A b) hp2 (by have := Nat.two_pow_pos (sSlot A b); omega)
    rw [lowN_pow _ hsl] at en
    have c9 := (cb.2.1 b hbl).2.2.2.2.2.2.1
    have c22 := cp.2.2.2.2.1 b (by omega)
    rw [if_pos hbl] at c22
    simp only
    generalize 2 ^ sSlot A b = sb at *
    cases hpl : sPlc A b with
    | none =>
      rw [hpl, oI_n] at c22
      simp only [Option.getD_none]
      simp (disch := first | assumption | omega) [f_O_rankHeldBy, body_O_rankHeldBy, j_meth, j_out, j_rok, j_pad, lg_sl, s_seq_w, isN_inl, isN_inr, s_if, jb, x_c, x_iloc, x_aloc, x_lloc, x_bin, x_un, o_add, o_sub, o_mul, o_and, o_or, o_xor, o_shl, o_shr, o_ushr, o_max, o_min, o_i2b, o_i2c, o_i2l, o_l2i, x_fld, j_fget, x_idx, j_aget, x_len, j_alen, x_ofb, x_ite, xs_nil, xs_cons, x_callv, x_calls, s_callv, s_calls, j_recv, j_ret, j_retv, b_cmp, b_and, b_or, b_not, b_ofi, b_ite, b_true, s_skip, s_set, j_ty, j_lset, j_kill, s_inc, s_fput, j_fput, s_fop, s_aput, j_aput, j_nar, s_aop, s_ret, s_retv, s_go, s_pop, x_linc, x_finc, Value.category, if_icmp.holds, List.flatMap_cons, List.flatMap_nil, List.length_cons, List.length_append, List.length_nil, List.set_cons_succ, List.set_cons_zero, List.getElem?_cons_succ, List.getElem?_cons_zero, List.replicate, ite_and', ite_or', ite_int', nI_leI, nI_ltI, nI_eq, nI_add, nI_1, pk_mul, nI_clamp, n_in', nI_pos', nI_pos, n_m1e, n_01, n_10, sT_1, sR_1_0, sR_1_1, sR_1_2, sR_1_3, sR_1_4, sR_1_5, sR_1_6, sR_1_7, sR_1_8, sR_1_9, sT_2, sT_3, sT_4, sT_5, sT_6, sT_7, sT_8, sT_9, sT_10, sT_11, sT_12, sT_13, sT_14, sR_2_1, sR_2_2, sR_2_3, sR_2_4, sR_2_5, sR_2_6, sR_2_7, sR_2_8, sR_2_9, sR_2_10, sR_2_11, sR_2_12, sT_15, sT_16, sT_17, sT_18, sT_19, sT_20, sT_21, sT_22, sT_23, sR_15_1, sR_15_2, sR_15_3, sR_15_4, sR_15_5, sR_15_6, sR_15_7, sR_15_8, sT_24, sT_25, sT_26, sT_27, sT_28, sT_29, sR_24_1, sR_24_2, sR_24_3, sR_24_4, sR_24_5, sT_71, sT_72, sR_71_0, sR_71_1, sR_71_2, sR_71_3, sR_71_4, sT_73, sT_74, sT_75, sR_73_0, sR_73_1, sR_73_2, sR_73_3, sR_73_4, sR_73_5, sT_84, sT_85, sT_86, sT_87, sR_84_0, sR_84_1, sR_84_2, sR_84_3, sR_84_4, sR_84_5, sT_88, sT_89, sR_88_0, sT_90, sT_91, sR_90_0, c8, s1, hX, hne, en, c9, c22]
    | some k =>
      rw [hpl, oI_s] at c22
      simp only [Option.getD_some]
      have hk5 := sPlc_lt w hpl
      have hk1 : (nI k = -1) = False := n_m1e (by omega)
      simp (disch := first | assumption | omega) [f_O_rankHeldBy, body_O_rankHeldBy, j_meth, j_out, j_rok, j_pad, lg_sl, s_seq_w, isN_inl, isN_inr, s_if, jb, x_c, x_iloc, x_aloc, x_lloc, x_bin, x_un, o_add, o_sub, o_mul, o_and, o_or, o_xor, o_shl, o_shr, o_ushr, o_max, o_min, o_i2b, o_i2c, o_i2l, o_l2i, x_fld, j_fget, x_idx, j_aget, x_len, j_alen, x_ofb, x_ite, xs_nil, xs_cons, x_callv, x_calls, s_callv, s_calls, j_recv, j_ret, j_retv, b_cmp, b_and, b_or, b_not, b_ofi, b_ite, b_true, s_skip, s_set, j_ty, j_lset, j_kill, s_inc, s_fput, j_fput, s_fop, s_aput, j_aput, j_nar, s_aop, s_ret, s_retv, s_go, s_pop, x_linc, x_finc, Value.category, if_icmp.holds, List.flatMap_cons, List.flatMap_nil, List.length_cons, List.length_append, List.length_nil, List.set_cons_succ, List.set_cons_zero, List.getElem?_cons_succ, List.getElem?_cons_zero, List.replicate, ite_and', ite_or', ite_int', nI_leI, nI_ltI, nI_eq, nI_add, nI_1, pk_mul, nI_clamp, n_in', nI_pos', nI_pos, n_m1e, n_01, n_10, sT_1, sR_1_0, sR_1_1, sR_1_2, sR_1_3, sR_1_4, sR_1_5, sR_1_6, sR_1_7, sR_1_8, sR_1_9, sT_2, sT_3, sT_4, sT_5, sT_6, sT_7, sT_8, sT_9, sT_10, sT_11, sT_12, sT_13, sT_14, sR_2_1, sR_2_2, sR_2_3, sR_2_4, sR_2_5, sR_2_6, sR_2_7, sR_2_8, sR_2_9, sR_2_10, sR_2_11, sR_2_12, sT_15, sT_16, sT_17, sT_18, sT_19, sT_20, sT_21, sT_22, sT_23, sR_15_1, sR_15_2, sR_15_3, sR_15_4, sR_15_5, sR_15_6, sR_15_7, sR_15_8, sT_24, sT_25, sT_26, sT_27, sT_28, sT_29, sR_24_1, sR_24_2, sR_24_3, sR_24_4, sR_24_5, sT_71, sT_72, sR_71_0, sR_71_1, sR_71_2, sR_71_3, sR_71_4, sT_73, sT_74, sT_75, sR_73_0, sR_73_1, sR_73_2, sR_73_3, sR_73_4, sR_73_5, sT_84, sT_85, sT_86, sT_87, sR_84_0, sR_84_1, sR_84_2, sR_84_3, sR_84_4, sR_84_5, sT_88, sT_89, sR_88_0, sT_90, sT_91, sR_90_0, c8, s1, hX, hne, en, c9, c22, hk1]
/-- the LISTS while PERSON p tells another one -/
def GL (A : AS) (p : Nat) (pre : List Nat) (h : jHp) : Prop := (∀ q, q < aNp A → q ≠ p → hI h 86 q = nI (lL A q).length ∧ ∀ k, k < (lL A q).length → hI h 85 (5 * q + k) = nI ((lL A q).getD k 0)) ∧ ∀ k, k < pre.length → hI h 85 (5 * p + k) = nI (pre.getD k 0)
def Wgl (p a j : Nat) : Prop := W847 a j ∨ (a = 85 ∧ 5 * p ≤ j ∧ j < 5 * p + 5) ∨ (a = 86 ∧ j = p)
theorem Wgl_71 {p a j : Nat} (h : Wgl p a j) : 71 ≤ a ∧ a ≤ 91 ∧ okW a j := by
  unfold Wgl W847 at h
  exact ⟨by omega, by omega, Or.inr (Or.inr (Or.inl (by omega)))⟩
theorem lie_ini {A : AS} {p : Nat} (hc : sCpl A p = none) (pre : List Nat) : oIni A (some (p, pre)) none none = (0, 0, 0, 0, fun q => if q = p then pre else lL A q) := by
  unfold oIni
  have hf : ∀ l : List Nat, l.filter (fun b => some b != none) = l := fun l => by
    rw [List.filter_eq_self]
    intro b _
    rfl
  have : (fun q => oRem A (some (p, pre)) none none q 0) = fun q => if q = p then pre else lL A q := by
    funext q
    by_cases e : q = p
    · subst e
      rw [if_pos rfl]
      unfold oRem oOff oRaw
      rw [hc]
      have : ((none : Option Nat) == some q || (none : Option Nat).isSome) = false := rfl
      simp only [this, Bool.false_eq_true, if_false, if_true, List.drop_zero]
      exact hf _
    · rw [if_neg e, lL_rem]
      unfold oRem oRaw
      simp only [if_neg (fun z : p = q => e z.symm)]
  rw [this]
theorem gl_leaf {A : AS} {p r : Nat} {pre : List Nat} {h : jHp} (x : OT A h) (hp : p < aNp A) (hc : sCpl A p = none) (hr : r ≤ (aLl A p).length) (hl : pre.length ≤ 5) (hd : pre.Nodup) (hm : ∀ b ∈ pre, b < aNb A ∧ aPe A b = p) (g : GL A p pre h) {rec : jF} {v5 : Int32} : ∃ h', j_meth 2 7 (body_O_gainsByLie rec) [.ref 84, .int (nI p), .int (nI r), .int (nI pre.length), .int (nI pre.length), .int v5] h = some (some (.int (if lieO A p (nI r) pre then 1 else 0)), h') ∧ Fr (Wgl p) h h' ∧ GL A p pre h' := by
  have w := x.1.1.2.1
  have hs := x.1.1.1
  have hn := w.1.1
  have hl5 := (w.2.2.2.1 p).2.1
  have f1 : Fr (Wgl p) h (hSetI h 86 p (nI pre.length)) := Fr_set _ (Or.inr (Or.inr ⟨rfl, rfl⟩))
  have x1 := OT_fr x f1 fun a j q => by have := Wgl_71 q; omega
  have hs1 := x1.1.1.1
  have ro : RO A (fun q => if q = p then pre else lL A q) (hSetI h 86 p (nI pre.length)) := fun q hq => by
    by_cases e : q = p
    · subst e
      simp only [if_true]
      exact ⟨by rw [hI_setI, if_pos ⟨rfl, rfl⟩], fun k hk => by rw [hI_setI, if_neg (by omega)]; exact g.2 k hk⟩
    · simp only [if_neg e]
      exact ⟨by rw [hI_setI, if_neg (fun z => e z.2)]; exact (g.1 q hq e).1, fun k hk => by rw [hI_setI, if_neg (by omega)]; exact (g.1 q hq e).2 k hk⟩
  have lk : LK A (fun q => if q = p then pre else lL A q) := fun q => by
    by_cases e : q = p
    · subst e; simp only [if_true]; exact ⟨hl, hd, hm⟩
    · simp only [if_neg e]; exact lL_ok w q
  generalize hh1 : hSetI h 86 p (nI pre.length) = h1 at *
  obtain ⟨h2, s, hsq, e2, f2, -, -, b8, hl2, -⟩ := e_O_run x1 lk ro
  have x2 := OT_fr x1 f2 fun a j q => by unfold W847 at q; omega
  have hs2 := x2.1.1.1
  have hso : sOut A (some (p, pre)) none none = s := by unfold sOut; rw [lie_ini hc, hsq]
  have hz : sOuV A (some (p, pre)) none none = if popN 32 (sPpl A s.2.1) = popN 32 s.2.1 then some s.2.1 else none := by unfold sOuV; rw [hso]
  have ff : Fr (Wgl p) h h2 := Fr_trans f1 (Fr_mono f2 fun a j q => Or.inl q)
  refine ⟨h2, ?_, ff, ⟨fun q hq e => ⟨?_, fun k hk => ?_⟩, fun k hk => ?_⟩⟩
  · have h10 : ((1 : Int32) = 0) = False := by decide
    by_cases q1 : popN 32 (sPpl A s.2.1) = popN 32 s.2.1
    · have mH := (sMat_pop w hl2).mp q1
      have er := e_O_rankHeldBy x2.1 hp mH b8
      rw [if_pos q1] at e2
      have hlo : lieO A p (nI r) pre = decide (rkH A s.2.1 p < r) := by
        unfold lieO
        rw [hz, if_pos q1]
        simp only
        unfold rkH
        cases hb : sBnd A s.2.1 p with
        | none =>
          have : ¬ (aLl A p).length < r := by omega
          simp [this]
        | some b =>
          have hrr : sRnk A s.2.1 p = sPlc A b := by unfold sRnk; rw [hb]
          rw [hrr]
          cases hpl : sPlc A b with
          | none =>
            have : ¬ 6 < r := by omega
            simp [hpl, this]
          | some k =>
            have := sPlc_lt w hpl
            simp only [hpl, Option.isSome_some, Bool.true_and, Option.getD_some]
            rw [decide_eq_decide, nI_ltI (by omega) (by omega)]
      have hrk : rkH A s.2.1 p ≤ 6 := by
        unfold rkH
        cases hb : sBnd A s.2.1 p with
        | none => simp only; omega
        | some b =>
          cases hpl : sPlc A b with
          | none => simp [hpl]
          | some k => have := sPlc_lt w hpl; simp only [hpl, Option.getD_some]; omega
      rw [hlo]
      clear hlo x x1 x2 ro lk f1 f2 ff hso hz hsq g mH
      generalize rkH A s.2.1 p = rk at *
      generalize pre.length = n at *
      by_cases y : rk < r
      · simp (disch := first | assumption | omega) [body_O_gainsByLie, j_meth, j_out, j_rok, j_pad, lg_sl, s_seq_w, isN_inl, isN_inr, s_if, jb, x_c, x_iloc, x_aloc, x_lloc, x_bin, x_un, o_add, o_sub, o_mul, o_and, o_or, o_xor, o_shl, o_shr, o_ushr, o_max, o_min, o_i2b, o_i2c, o_i2l, o_l2i, x_fld, j_fget, x_idx, j_aget, x_len, j_alen, x_ofb, x_ite, xs_nil, xs_cons, x_callv, x_calls, s_callv, s_calls, j_recv, j_ret, j_retv, b_cmp, b_and, b_or, b_not, b_ofi, b_ite, b_true, s_skip, s_set, j_ty, j_lset, j_kill, s_inc, s_fput, j_fput, s_fop, s_aput, j_aput, j_nar, s_aop, s_ret, s_retv, s_go, s_pop, x_linc, x_finc, Value.category, if_icmp.holds, List.flatMap_cons, List.flatMap_nil, List.length_cons, List.length_append, List.length_nil, List.set_cons_succ, List.set_cons_zero, List.getElem?_cons_succ, List.getElem?_cons_zero, List.replicate, ite_and', ite_or', ite_int', nI_leI, nI_ltI, nI_eq, nI_add, nI_1, pk_mul, nI_clamp, n_in', nI_pos', nI_pos, n_m1e, n_01, n_10, sT_1, sR_1_0, sR_1_1, sR_1_2, sR_1_3, sR_1_4, sR_1_5, sR_1_6, sR_1_7, sR_1_8, sR_1_9, sT_2, sT_3, sT_4, sT_5, sT_6, sT_7, sT_8, sT_9, sT_10, sT_11, sT_12, sT_13, sT_14, sR_2_1, sR_2_2, sR_2_3, sR_2_4, sR_2_5, sR_2_6, sR_2_7, sR_2_8, sR_2_9, sR_2_10, sR_2_11, sR_2_12, sT_15, sT_16, sT_17, sT_18, sT_19, sT_20, sT_21, sT_22, sT_23, sR_15_1, sR_15_2, sR_15_3, sR_15_4, sR_15_5, sR_15_6, sR_15_7, sR_15_8, sT_24, sT_25, sT_26, sT_27, sT_28, sT_29, sR_24_1, sR_24_2, sR_24_3, sR_24_4, sR_24_5, sT_71, sT_72, sR_71_0, sR_71_1, sR_71_2, sR_71_3, sR_71_4, sT_73, sT_74, sT_75, sR_73_0, sR_73_1, sR_73_2, sR_73_3, sR_73_4, sR_73_5, sT_84, sT_85, sT_86, sT_87, sR_84_0, sR_84_1, sR_84_2, sR_84_3, sR_84_4, sR_84_5, sT_88, sT_89, sR_88_0, sT_90, sT_91, sR_90_0, hh1, e2, h10, er, y]
      · simp (disch := first | assumption | omega) [body_O_gainsByLie, j_meth, j_out, j_rok, j_pad, lg_sl, s_seq_w, isN_inl, isN_inr, s_if, jb, x_c, x_iloc, x_aloc, x_lloc, x_bin, x_un, o_add, o_sub, o_mul, o_and, o_or, o_xor, o_shl, o_shr, o_ushr, o_max, o_min, o_i2b, o_i2c, o_i2l, o_l2i, x_fld, j_fget, x_idx, j_aget, x_len, j_alen, x_ofb, x_ite, xs_nil, xs_cons, x_callv, x_calls, s_callv, s_calls, j_recv, j_ret, j_retv, b_cmp, b_and, b_or, b_not, b_ofi, b_ite, b_true, s_skip, s_set, j_ty, j_lset, j_kill, s_inc, s_fput, j_fput, s_fop, s_aput, j_aput, j_nar, s_aop, s_ret, s_retv, s_go, s_pop, x_linc, x_finc, Value.category, if_icmp.holds, List.flatMap_cons, List.flatMap_nil, List.length_cons, List.length_append, List.length_nil, List.set_cons_succ, List.set_cons_zero, List.getElem?_cons_succ, List.getElem?_cons_zero, List.replicate, ite_and', ite_or', ite_int', nI_leI, nI_ltI, nI_eq, nI_add, nI_1, pk_mul, nI_clamp, n_in', nI_pos', nI_pos, n_m1e, n_01, n_10, sT_1, sR_1_0, sR_1_1, sR_1_2, sR_1_3, sR_1_4, sR_1_5, sR_1_6, sR_1_7, sR_1_8, sR_1_9, sT_2, sT_3, sT_4, sT_5, sT_6, sT_7, sT_8, sT_9, sT_10, sT_11, sT_12, sT_13, sT_14, sR_2_1, sR_2_2, sR_2_3, sR_2_4, sR_2_5, sR_2_6, sR_2_7, sR_2_8, sR_2_9, sR_2_10, sR_2_11, sR_2_12, sT_15, sT_16, sT_17, sT_18, sT_19, sT_20, sT_21, sT_22, sT_23, sR_15_1, sR_15_2, sR_15_3, sR_15_4, sR_15_5, sR_15_6, sR_15_7, sR_15_8, sT_24, sT_25, sT_26, sT_27, sT_28, sT_29, sR_24_1, sR_24_2, sR_24_3, sR_24_4, sR_24_5, sT_71, sT_72, sR_71_0, sR_71_1, sR_71_2, sR_71_3, sR_71_4, sT_73, sT_74, sT_75, sR_73_0, sR_73_1, sR_73_2, sR_73_3, sR_73_4, sR_73_5, sT_84, sT_85, sT_86, sT_87, sR_84_0, sR_84_1, sR_84_2, sR_84_3, sR_84_4, sR_84_5, sT_88, sT_89, sR_88_0, sT_90, sT_91, sR_90_0, hh1, e2, h10, er, y]
    · rw [if_neg q1] at e2
      have hlo : lieO A p (nI r) pre = false := by
        unfold lieO
        rw [hz, if_neg q1]
      rw [hlo]
      clear x x1 x2 ro lk f1 f2 ff hso hz hsq g
      generalize pre.length = n at *
      simp (disch := first | assumption | omega) [body_O_gainsByLie, j_meth, j_out, j_rok, j_pad, lg_sl, s_seq_w, isN_inl, isN_inr, s_if, jb, x_c, x_iloc, x_aloc, x_lloc, x_bin, x_un, o_add, o_sub, o_mul, o_and, o_or, o_xor, o_shl, o_shr, o_ushr, o_max, o_min, o_i2b, o_i2c, o_i2l, o_l2i, x_fld, j_fget, x_idx, j_aget, x_len, j_alen, x_ofb, x_ite, xs_nil, xs_cons, x_callv, x_calls, s_callv, s_calls, j_recv, j_ret, j_retv, b_cmp, b_and, b_or, b_not, b_ofi, b_ite, b_true, s_skip, s_set, j_ty, j_lset, j_kill, s_inc, s_fput, j_fput, s_fop, s_aput, j_aput, j_nar, s_aop, s_ret, s_retv, s_go, s_pop, x_linc, x_finc, Value.category, if_icmp.holds, List.flatMap_cons, List.flatMap_nil, List.length_cons, List.length_append, List.length_nil, List.set_cons_succ, List.set_cons_zero, List.getElem?_cons_succ, List.getElem?_cons_zero, List.replicate, ite_and', ite_or', ite_int', nI_leI, nI_ltI, nI_eq, nI_add, nI_1, pk_mul, nI_clamp, n_in', nI_pos', nI_pos, n_m1e, n_01, n_10, sT_1, sR_1_0, sR_1_1, sR_1_2, sR_1_3, sR_1_4, sR_1_5, sR_1_6, sR_1_7, sR_1_8, sR_1_9, sT_2, sT_3, sT_4, sT_5, sT_6, sT_7, sT_8, sT_9, sT_10, sT_11, sT_12, sT_13, sT_14, sR_2_1, sR_2_2, sR_2_3, sR_2_4, sR_2_5, sR_2_6, sR_2_7, sR_2_8, sR_2_9, sR_2_10, sR_2_11, sR_2_12, sT_15, sT_16, sT_17, sT_18, sT_19, sT_20, sT_21, sT_22, sT_23, sR_15_1, sR_15_2, sR_15_3, sR_15_4, sR_15_5, sR_15_6, sR_15_7, sR_15_8, sT_24, sT_25, sT_26, sT_27, sT_28, sT_29, sR_24_1, sR_24_2, sR_24_3, sR_24_4, sR_24_5, sT_71, sT_72, sR_71_0, sR_71_1, sR_71_2, sR_71_3, sR_71_4, sT_73, sT_74, sT_75, sR_73_0, sR_73_1, sR_73_2, sR_73_3, sR_73_4, sR_73_5, sT_84, sT_85, sT_86, sT_87, sR_84_0, sR_84_1, sR_84_2, sR_84_3, sR_84_4, sR_84_5, sT_88, sT_89, sR_88_0, sT_90, sT_91, sR_90_0, hh1, e2]
  · rw [Fr_I ff (by unfold Wgl W847; omega)]; exact (g.1 q hq e).1
  · have := (lL_ok w q).1
    rw [Fr_I ff (by unfold Wgl W847; omega)]; exact (g.1 q hq e).2 k hk
  · rw [Fr_I f2 (by unfold W847; omega), ← hh1, hI_setI, if_neg (by omega)]; exact g.2 k hk
