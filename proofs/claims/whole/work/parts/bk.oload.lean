/-! OFFERS: load, and the call offer -/
def lL (A : AS) (p : Nat) : List Nat := if (sCpl A p).isNone then aLl A p else []
theorem lL_rem (A : AS) (p : Nat) : lL A p = oRem A none none none p 0 := by
  unfold lL oRem oOff oRaw
  have hf : ∀ l : List Nat, l.filter (fun b => some b != none) = l := fun l => by
    rw [List.filter_eq_self]
    intro b _
    rfl
  cases h : sCpl A p with
  | none =>
    have : ((none : Option Nat) == some p || (none : Option Nat).isSome) = false := rfl
    simp only [Option.isNone_none, if_true, this, Bool.false_eq_true, if_false, List.drop_zero]
    exact (hf _).symm
  | some c =>
    have : ((none : Option Nat) == some p || (some c).isSome) = true := rfl
    simp only [Option.isNone_some, Bool.false_eq_true, if_false, this, if_true]
theorem lL_ok {A : AS} (w : WF A) : LK A (lL A) := fun p => by
  unfold lL
  split
  · exact ⟨(w.2.2.2.1 p).2.1, (w.2.2.2.1 p).2.2.1, (w.2.2.2.1 p).2.2.2⟩
  · exact ⟨by simp, List.nodup_nil, fun b hb => by simp at hb⟩
theorem hI_copy (h : jHp) (a s b d n x j : Nat) : hI (hCopy h a s b d n) x j = if x = b ∧ d ≤ j ∧ j < d + n then hI h a (s + (j - d)) else hI h x j := rfl
theorem hT_copy (h : jHp) (a s b d n : Nat) : hT (hCopy h a s b d n) = hT h := rfl
theorem Fr_copy {W : Nat → Nat → Prop} {h : jHp} {a s b d n : Nat} (hW : ∀ j, W b j) : Fr W h (hCopy h a s b d n) := by
  refine ⟨⟨rfl, rfl, rfl, rfl, rfl⟩, fun x j hx => ?_⟩
  rw [hI_copy, if_neg]
  rintro ⟨rfl, -⟩
  exact hx (hW j)
def W856 (a _j : Nat) : Prop := a = 85 ∨ a = 86
theorem e_O_load_2 {A : AS} {h : jHp} (x : MK A h) : ∃ h', s_loop 3 4 lc_O_load_2 lb_O_load_2 lu_O_load_2 ([.ref 84, .int (nI 0)], h) = some (.inl 0, ([.ref 84, .int (nI (aNp A))], h')) ∧ Fr W856 h h' ∧ RO A (lL A) h' := by
  have w := x.1.2.1
  have hs := x.1.1
  have hn := w.1.1
  have hL := loop_wp (lb := 3) (lc := 4) (c := lc_O_load_2) (b := lb_O_load_2) (u := lu_O_load_2) (aNp A)
    (fun p st => ∃ h', st = ([.ref 84, .int (nI p)], h') ∧ Fr W856 h h' ∧ ∀ q, q < p → hI h' 86 q = nI (lL A q).length ∧ ∀ k, k < (lL A q).length → hI h' 85 (5 * q + k) = nI ((lL A q).getD k 0))
    (fun r => ∃ h', r = (.inl 0, ([.ref 84, .int (nI (aNp A))], h')) ∧ Fr W856 h h' ∧ ∀ q, q < aNp A → hI h' 86 q = nI (lL A q).length ∧ ∀ k, k < (lL A q).length → hI h' 85 (5 * q + k) = nI ((lL A q).getD k 0))
    ?_ ?_ ([.ref 84, .int (nI 0)], h) ⟨h, rfl, Fr_refl _ _, fun q hq => by omega⟩
  · obtain ⟨r, e, h', rfl, f, c⟩ := hL
    exact ⟨h', e, f, c⟩
  · rintro p st hp ⟨h1, rfl, f1, c1⟩
    left
    have hW : ∀ a j, W856 a j → ¬ cC a j := fun a j q => by
      unfold W856 at q
      unfold cC isCA
      rintro (z | ⟨c, q1, q2, q3⟩ | z) <;> omega
    have x1 := MK_fr x f1 hW
    have hs1 := x1.1.1
    have cp := x1.1.2.2.2
    have c0 := cp.1
    have es := e_P_isSingle hs1 w cp (nI p)
    rw [n_in (by omega), nI_clamp (by omega), decide_eq_true hp] at es
    have q4 := cp.2.2.2.1 p (by omega)
    have h10 : ((1 : Int32) = 0) = False := by decide
    have l5 := (lL_ok w p).1
    have f2 : Fr W856 h1 (hSetI h1 86 p (nI (lL A p).length)) := Fr_set _ (Or.inr rfl)
    have f3 : Fr W856 (hSetI h1 86 p (nI (lL A p).length)) (hCopy (hSetI h1 86 p (nI (lL A p).length)) 19 (5 * p) 85 (5 * p) (lL A p).length) := Fr_copy fun j => Or.inl rfl
    have hs2 := Fr_shape hs1 f2
    have hs3 := Fr_shape hs2 f3
    have g86 : hI (hSetI h1 86 p (nI (lL A p).length)) 86 p = nI (lL A p).length := by rw [hI_setI, if_pos ⟨rfl, rfl⟩]
    refine ⟨([.ref 84, .int (nI (p + 1))], hCopy (hSetI h1 86 p (nI (lL A p).length)) 19 (5 * p) 85 (5 * p) (lL A p).length), ?_, _, rfl, Fr_trans f1 (Fr_trans f2 f3), fun q hq => ?_⟩
    · have e5 : p * 5 = 5 * p := Nat.mul_comm _ _
      have p1 : (0 : Int32) ≤ nI (5 * p) := nI_pos' (by omega)
      have p2 : (0 : Int32) ≤ nI (lL A p).length := nI_pos' (by omega)
      have b1 : 5 * p + (lL A p).length ≤ 35 := by omega
      have t19 := sT_19 hs2
      have t85 := sT_85 hs2
      have hlen : (lL A p).length = if (sCpl A p).isNone then (aLl A p).length else 0 := by unfold lL; split <;> rfl
      have a20 := q4.2.1
      clear c1 f1 f2 f3 x1 cp q4
      cases hc : sCpl A p with
      | none =>
        rw [hc] at hlen
        simp only [Option.isNone_none, if_true] at hlen
        rw [if_pos ⟨rfl, hc⟩] at es
        rw [← hlen] at a20
        generalize (lL A p).length = n at *
        generalize hh2 : hSetI h1 86 p (nI n) = h2 at *
        simp (disch := first | assumption | omega) [lstp, lc_O_load_2, lb_O_load_2, lu_O_load_2, j_meth, j_out, j_rok, j_pad, lg_sl, s_seq_w, isN_inl, isN_inr, s_if, jb, x_c, x_iloc, x_aloc, x_lloc, x_bin, x_un, o_add, o_sub, o_mul, o_and, o_or, o_xor, o_shl, o_shr, o_ushr, o_max, o_min, o_i2b, o_i2c, o_i2l, o_l2i, x_fld, j_fget, x_idx, j_aget, x_len, j_alen, x_ofb, x_ite, xs_nil, xs_cons, x_callv, x_calls, s_callv, s_calls, j_recv, j_ret, j_retv, b_cmp, b_and, b_or, b_not, b_ofi, b_ite, b_true, s_skip, s_set, j_ty, j_lset, j_kill, s_inc, s_fput, j_fput, s_fop, s_aput, j_aput, j_nar, s_aop, s_ret, s_retv, s_go, s_pop, x_linc, x_finc, Value.category, if_icmp.holds, List.flatMap_cons, List.flatMap_nil, List.length_cons, List.length_append, List.length_nil, List.set_cons_succ, List.set_cons_zero, List.getElem?_cons_succ, List.getElem?_cons_zero, List.replicate, ite_and', ite_or', ite_int', nI_leI, nI_ltI, nI_eq, nI_add, nI_1, pk_mul, nI_clamp, n_in', nI_pos', nI_pos, n_m1e, n_01, n_10, sT_1, sR_1_0, sR_1_1, sR_1_2, sR_1_3, sR_1_4, sR_1_5, sR_1_6, sR_1_7, sR_1_8, sR_1_9, sT_2, sT_3, sT_4, sT_5, sT_6, sT_7, sT_8, sT_9, sT_10, sT_11, sT_12, sT_13, sT_14, sR_2_1, sR_2_2, sR_2_3, sR_2_4, sR_2_5, sR_2_6, sR_2_7, sR_2_8, sR_2_9, sR_2_10, sR_2_11, sR_2_12, sT_15, sT_16, sT_17, sT_18, sT_19, sT_20, sT_21, sT_22, sT_23, sR_15_1, sR_15_2, sR_15_3, sR_15_4, sR_15_5, sR_15_6, sR_15_7, sR_15_8, sT_24, sT_25, sT_26, sT_27, sT_28, sT_29, sR_24_1, sR_24_2, sR_24_3, sR_24_4, sR_24_5, sT_71, sT_72, sR_71_0, sR_71_1, sR_71_2, sR_71_3, sR_71_4, sT_73, sT_74, sT_75, sR_73_0, sR_73_1, sR_73_2, sR_73_3, sR_73_4, sR_73_5, sT_84, sT_85, sT_86, sT_87, sR_84_0, sR_84_1, sR_84_2, sR_84_3, sR_84_4, sR_84_5, sT_88, sT_89, sR_88_0, sT_90, sT_91, sR_90_0, s_copy, j_copy, c0, hp, es, h10, a20, hh2, e5, g86, p1, p2, t19, t85, b1]
      | some c =>
        rw [hc] at hlen
        simp only [Option.isNone_some, Bool.false_eq_true, if_false] at hlen
        rw [if_neg (fun q => by rw [hc] at q; exact absurd q.2 (by simp))] at es
        rw [hlen] at hs2 hs3 g86 t19 t85 ⊢
        generalize hh2 : hSetI h1 86 p (nI 0) = h2 at *
        have p0 : (0 : Int32) ≤ nI 0 := by decide
        have b0 : 5 * p ≤ 35 := by omega
        simp (disch := first | assumption | omega) [lstp, lc_O_load_2, lb_O_load_2, lu_O_load_2, j_meth, j_out, j_rok, j_pad, lg_sl, s_seq_w, isN_inl, isN_inr, s_if, jb, x_c, x_iloc, x_aloc, x_lloc, x_bin, x_un, o_add, o_sub, o_mul, o_and, o_or, o_xor, o_shl, o_shr, o_ushr, o_max, o_min, o_i2b, o_i2c, o_i2l, o_l2i, x_fld, j_fget, x_idx, j_aget, x_len, j_alen, x_ofb, x_ite, xs_nil, xs_cons, x_callv, x_calls, s_callv, s_calls, j_recv, j_ret, j_retv, b_cmp, b_and, b_or, b_not, b_ofi, b_ite, b_true, s_skip, s_set, j_ty, j_lset, j_kill, s_inc, s_fput, j_fput, s_fop, s_aput, j_aput, j_nar, s_aop, s_ret, s_retv, s_go, s_pop, x_linc, x_finc, Value.category, if_icmp.holds, List.flatMap_cons, List.flatMap_nil, List.length_cons, List.length_append, List.length_nil, List.set_cons_succ, List.set_cons_zero, List.getElem?_cons_succ, List.getElem?_cons_zero, List.replicate, ite_and', ite_or', ite_int', nI_leI, nI_ltI, nI_eq, nI_add, nI_1, pk_mul, nI_clamp, n_in', nI_pos', nI_pos, n_m1e, n_01, n_10, sT_1, sR_1_0, sR_1_1, sR_1_2, sR_1_3, sR_1_4, sR_1_5, sR_1_6, sR_1_7, sR_1_8, sR_1_9, sT_2, sT_3, sT_4, sT_5, sT_6, sT_7, sT_8, sT_9, sT_10, sT_11, sT_12, sT_13, sT_14, sR_2_1, sR_2_2, sR_2_3, sR_2_4, sR_2_5, sR_2_6, sR_2_7, sR_2_8, sR_2_9, sR_2_10, sR_2_11, sR_2_12, sT_15, sT_16, sT_17, sT_18, sT_19, sT_20, sT_21, sT_22, sT_23, sR_15_1, sR_15_2, sR_15_3, sR_15_4, sR_15_5, sR_15_6, sR_15_7, sR_15_8, sT_24, sT_25, sT_26, sT_27, sT_28, sT_29, sR_24_1, sR_24_2, sR_24_3, sR_24_4, sR_24_5, sT_71, sT_72, sR_71_0, sR_71_1, sR_71_2, sR_71_3, sR_71_4, sT_73, sT_74, sT_75, sR_73_0, sR_73_1, sR_73_2, sR_73_3, sR_73_4, sR_73_5, sT_84, sT_85, sT_86, sT_87, sR_84_0, sR_84_1, sR_84_2, sR_84_3, sR_84_4, sR_84_5, sT_88, sT_89, sR_88_0, sT_90, sT_91, sR_90_0, s_copy, j_copy, c0, hp, es, hh2, e5, g86, p1, p0, t19, t85, b0]
    · by_cases e : q = p
      · subst e
        refine ⟨by rw [hI_copy, if_neg (by omega)]; exact g86, fun k hk => ?_⟩
        rw [hI_copy, if_pos ⟨rfl, by omega, by omega⟩, hI_setI, if_neg (by omega)]
        have e1 : 5 * q + (5 * q + k - 5 * q) = 5 * q + k := by omega
        rw [e1]
        unfold lL at hk ⊢
        by_cases hc : (sCpl A q).isNone = true
        · rw [if_pos hc] at hk ⊢
          exact q4.2.2.2 k hk
        · rw [if_neg hc] at hk; simp at hk
      · obtain ⟨d1, d2⟩ := c1 q (by omega)
        have l5q := (lL_ok w q).1
        refine ⟨by rw [hI_copy, if_neg (by omega), hI_setI, if_neg (fun y => e y.2)]; exact d1, fun k hk => ?_⟩
        rw [hI_copy, if_neg (by omega), hI_setI, if_neg (by omega)]
        exact d2 k hk
  · rintro st ⟨h1, rfl, f1, c1⟩
    have hs1 := Fr_shape hs f1
    have c0 : hI h1 15 0 = nI (aNp A) := by rw [Fr_I f1 (by unfold W856; omega)]; exact x.1.2.2.2.1
    refine ⟨_, ?_, h1, rfl, f1, c1⟩
    simp (disch := first | assumption | omega) [lstp, lc_O_load_2, lb_O_load_2, lu_O_load_2, j_meth, j_out, j_rok, j_pad, lg_sl, s_seq_w, isN_inl, isN_inr, s_if, jb, x_c, x_iloc, x_aloc, x_lloc, x_bin, x_un, o_add, o_sub, o_mul, o_and, o_or, o_xor, o_shl, o_shr, o_ushr, o_max, o_min, o_i2b, o_i2c, o_i2l, o_l2i, x_fld, j_fget, x_idx, j_aget, x_len, j_alen, x_ofb, x_ite, xs_nil, xs_cons, x_callv, x_calls, s_callv, s_calls, j_recv, j_ret, j_retv, b_cmp, b_and, b_or, b_not, b_ofi, b_ite, b_true, s_skip, s_set, j_ty, j_lset, j_kill, s_inc, s_fput, j_fput, s_fop, s_aput, j_aput, j_nar, s_aop, s_ret, s_retv, s_go, s_pop, x_linc, x_finc, Value.category, if_icmp.holds, List.flatMap_cons, List.flatMap_nil, List.length_cons, List.length_append, List.length_nil, List.set_cons_succ, List.set_cons_zero, List.getElem?_cons_succ, List.getElem?_cons_zero, List.replicate, ite_and', ite_or', ite_int', nI_leI, nI_ltI, nI_eq, nI_add, nI_1, pk_mul, nI_clamp, n_in', nI_pos', nI_pos, n_m1e, n_01, n_10, sT_1, sR_1_0, sR_1_1, sR_1_2, sR_1_3, sR_1_4, sR_1_5, sR_1_6, sR_1_7, sR_1_8, sR_1_9, sT_2, sT_3, sT_4, sT_5, sT_6, sT_7, sT_8, sT_9, sT_10, sT_11, sT_12, sT_13, sT_14, sR_2_1, sR_2_2, sR_2_3, sR_2_4, sR_2_5, sR_2_6, sR_2_7, sR_2_8, sR_2_9, sR_2_10, sR_2_11, sR_2_12, sT_15, sT_16, sT_17, sT_18, sT_19, sT_20, sT_21, sT_22, sT_23, sR_15_1, sR_15_2, sR_15_3, sR_15_4, sR_15_5, sR_15_6, sR_15_7, sR_15_8, sT_24, sT_25, sT_26, sT_27, sT_28, sT_29, sR_24_1, sR_24_2, sR_24_3, sR_24_4, sR_24_5, sT_71, sT_72, sR_71_0, sR_71_1, sR_71_2, sR_71_3, sR_71_4, sT_73, sT_74, sT_75, sR_73_0, sR_73_1, sR_73_2, sR_73_3, sR_73_4, sR_73_5, sT_84, sT_85, sT_86, sT_87, sR_84_0, sR_84_1, sR_84_2, sR_84_3, sR_84_4, sR_84_5, sT_88, sT_89, sR_88_0, sT_90, sT_91, sR_90_0, c0]
def Wld (a j : Nat) : Prop := Wds a j ∨ W856 a j
theorem Wld_ok {a j : Nat} (h : Wld a j) : okW a j := by
  rcases h with q | q
  · exact Or.inl q
  · exact Or.inr (Or.inr (Or.inl (by unfold W856 at q; omega)))
theorem e_O_load {A : AS} {ca bl : Nat → Nat} {h : jHp} (x : MK A h) (d : DK A ca bl h) : ∃ h' bl', f_O_load [.ref 84] h = some (none, h') ∧ Fr Wld h h' ∧ OT A h' ∧ DK A ca bl' h' ∧ RO A (lL A) h' := by
  have hs := x.1.1
  have hL := loop_wp (lb := 1) (lc := 2) (c := lc_O_load_1) (b := lb_O_load_1) (u := lu_O_load_1) 4
    (fun o st => ∃ h' bl', st = ([.ref 84, .int (nI o)], h') ∧ Fr Wds h h' ∧ DK A ca bl' h' ∧ ∀ k, k < o → (bl' k).testBit 0 = true)
    (fun r => ∃ h' bl', r = (.inl 0, ([.ref 84, .int (nI 4)], h')) ∧ Fr Wds h h' ∧ DK A ca bl' h' ∧ ∀ k, k < 4 → (bl' k).testBit 0 = true)
    ?_ ?_ ([.ref 84, .int (nI 0)], h) ⟨h, bl, rfl, Fr_refl _ _, d, fun k hk => by omega⟩
  · obtain ⟨r, e, h1, bl1, rfl, f1, d1, c1⟩ := hL
    have x1 := MK_fr x f1 fun a j q => Wds_cC q
    have hs1 := x1.1.1
    obtain ⟨h2, e2, f2, ro⟩ := e_O_load_2 x1
    have hs2 := Fr_shape hs1 f2
    have x2 := MK_fr x1 f2 fun a j q => okW_cC (Wld_ok (Or.inr q))
    have d2 : DK A ca bl1 h2 := DK_fr d1 f2 (fun a j q => okW_cC (Wld_ok (Or.inr q))) fun a j k hk q z => by
      have := Wdk_lt hk z
      unfold W856 at q
      omega
    refine ⟨h2, bl1, ?_, Fr_trans (Fr_mono f1 fun a j q => Or.inl q) (Fr_mono f2 fun a j q => Or.inr q), ⟨x2, fun o ho => (d2 o ho).2.2.2.2.2 0 (by decide) (c1 o ho)⟩, d2, ro⟩
    clear x x1 x2 d d1 d2 f1 f2 ro c1
    simp only [nI_0] at e e2
    simp (disch := first | assumption | omega) [f_O_load, body_O_load, j_meth, j_out, j_rok, j_pad, lg_sl, s_seq_w, isN_inl, isN_inr, s_if, jb, x_c, x_iloc, x_aloc, x_lloc, x_bin, x_un, o_add, o_sub, o_mul, o_and, o_or, o_xor, o_shl, o_shr, o_ushr, o_max, o_min, o_i2b, o_i2c, o_i2l, o_l2i, x_fld, j_fget, x_idx, j_aget, x_len, j_alen, x_ofb, x_ite, xs_nil, xs_cons, x_callv, x_calls, s_callv, s_calls, j_recv, j_ret, j_retv, b_cmp, b_and, b_or, b_not, b_ofi, b_ite, b_true, s_skip, s_set, j_ty, j_lset, j_kill, s_inc, s_fput, j_fput, s_fop, s_aput, j_aput, j_nar, s_aop, s_ret, s_retv, s_go, s_pop, x_linc, x_finc, Value.category, if_icmp.holds, List.flatMap_cons, List.flatMap_nil, List.length_cons, List.length_append, List.length_nil, List.set_cons_succ, List.set_cons_zero, List.getElem?_cons_succ, List.getElem?_cons_zero, List.replicate, ite_and', ite_or', ite_int', nI_leI, nI_ltI, nI_eq, nI_add, nI_1, pk_mul, nI_clamp, n_in', nI_pos', nI_pos, n_m1e, n_01, n_10, sT_1, sR_1_0, sR_1_1, sR_1_2, sR_1_3, sR_1_4, sR_1_5, sR_1_6, sR_1_7, sR_1_8, sR_1_9, sT_2, sT_3, sT_4, sT_5, sT_6, sT_7, sT_8, sT_9, sT_10, sT_11, sT_12, sT_13, sT_14, sR_2_1, sR_2_2, sR_2_3, sR_2_4, sR_2_5, sR_2_6, sR_2_7, sR_2_8, sR_2_9, sR_2_10, sR_2_11, sR_2_12, sT_15, sT_16, sT_17, sT_18, sT_19, sT_20, sT_21, sT_22, sT_23, sR_15_1, sR_15_2, sR_15_3, sR_15_4, sR_15_5, sR_15_6, sR_15_7, sR_15_8, sT_24, sT_25, sT_26, sT_27, sT_28, sT_29, sR_24_1, sR_24_2, sR_24_3, sR_24_4, sR_24_5, sT_71, sT_72, sR_71_0, sR_71_1, sR_71_2, sR_71_3, sR_71_4, sT_73, sT_74, sT_75, sR_73_0, sR_73_1, sR_73_2, sR_73_3, sR_73_4, sR_73_5, sT_84, sT_85, sT_86, sT_87, sR_84_0, sR_84_1, sR_84_2, sR_84_3, sR_84_4, sR_84_5, sT_88, sT_89, sR_88_0, sT_90, sT_91, sR_90_0, nI_0, e, e2]
  · rintro o st ho ⟨h1, bl1, rfl, f1, d1, c1⟩
    left
    have x1 := MK_fr x f1 fun a j q => Wds_cC q
    have hs1 := x1.1.1
    obtain ⟨h3, e3, f3, t3⟩ := e_D_ready x1.1 ho (d1 o ho).1 (l := 0) (by decide) (d1 o ho).2
    have d3 := DK_1 ho d1 f3 t3
    refine ⟨([.ref 84, .int (nI (o + 1))], h3), ?_, h3, _, rfl, Fr_trans f1 (Fr_mono f3 fun a j q => ⟨o, ho, q⟩), d3, fun k hk => ?_⟩
    · obtain ⟨t1, -, -, -, -, -, -, -, -, r30⟩ := DSh_of hs1 ho
      have t30 := sT_30 hs1
      have n0 : dA o ≠ 0 := by unfold dA; omega
      clear d1 c1 d3 f1 f3 x1 t3
      generalize dA o = D at *
      simp only [nI_0] at e3
      simp (disch := first | assumption | omega) [lstp, lc_O_load_1, lb_O_load_1, lu_O_load_1, j_meth, j_out, j_rok, j_pad, lg_sl, s_seq_w, isN_inl, isN_inr, s_if, jb, x_c, x_iloc, x_aloc, x_lloc, x_bin, x_un, o_add, o_sub, o_mul, o_and, o_or, o_xor, o_shl, o_shr, o_ushr, o_max, o_min, o_i2b, o_i2c, o_i2l, o_l2i, x_fld, j_fget, x_idx, j_aget, x_len, j_alen, x_ofb, x_ite, xs_nil, xs_cons, x_callv, x_calls, s_callv, s_calls, j_recv, j_ret, j_retv, b_cmp, b_and, b_or, b_not, b_ofi, b_ite, b_true, s_skip, s_set, j_ty, j_lset, j_kill, s_inc, s_fput, j_fput, s_fop, s_aput, j_aput, j_nar, s_aop, s_ret, s_retv, s_go, s_pop, x_linc, x_finc, Value.category, if_icmp.holds, List.flatMap_cons, List.flatMap_nil, List.length_cons, List.length_append, List.length_nil, List.set_cons_succ, List.set_cons_zero, List.getElem?_cons_succ, List.getElem?_cons_zero, List.replicate, ite_and', ite_or', ite_int', nI_leI, nI_ltI, nI_eq, nI_add, nI_1, pk_mul, nI_clamp, n_in', nI_pos', nI_pos, n_m1e, n_01, n_10, sT_1, sR_1_0, sR_1_1, sR_1_2, sR_1_3, sR_1_4, sR_1_5, sR_1_6, sR_1_7, sR_1_8, sR_1_9, sT_2, sT_3, sT_4, sT_5, sT_6, sT_7, sT_8, sT_9, sT_10, sT_11, sT_12, sT_13, sT_14, sR_2_1, sR_2_2, sR_2_3, sR_2_4, sR_2_5, sR_2_6, sR_2_7, sR_2_8, sR_2_9, sR_2_10, sR_2_11, sR_2_12, sT_15, sT_16, sT_17, sT_18, sT_19, sT_20, sT_21, sT_22, sT_23, sR_15_1, sR_15_2, sR_15_3, sR_15_4, sR_15_5, sR_15_6, sR_15_7, sR_15_8, sT_24, sT_25, sT_26, sT_27, sT_28, sT_29, sR_24_1, sR_24_2, sR_24_3, sR_24_4, sR_24_5, sT_71, sT_72, sR_71_0, sR_71_1, sR_71_2, sR_71_3, sR_71_4, sT_73, sT_74, sT_75, sR_73_0, sR_73_1, sR_73_2, sR_73_3, sR_73_4, sR_73_5, sT_84, sT_85, sT_86, sT_87, sR_84_0, sR_84_1, sR_84_2, sR_84_3, sR_84_4, sR_84_5, sT_88, sT_89, sR_88_0, sT_90, sT_91, sR_90_0, ho, nI_0, t30, r30, n0, t1, e3]
    · by_cases e : k = o
      · subst e; simp [Nat.testBit_or]
      · simp only [if_neg e]
        exact c1 k (by omega)
  · rintro st ⟨h1, bl1, rfl, f1, d1, c1⟩
    refine ⟨_, ?_, h1, bl1, rfl, f1, d1, c1⟩
    have hs1 := Fr_shape hs f1
    simp (disch := first | assumption | omega) [lstp, lc_O_load_1, lb_O_load_1, lu_O_load_1, j_meth, j_out, j_rok, j_pad, lg_sl, s_seq_w, isN_inl, isN_inr, s_if, jb, x_c, x_iloc, x_aloc, x_lloc, x_bin, x_un, o_add, o_sub, o_mul, o_and, o_or, o_xor, o_shl, o_shr, o_ushr, o_max, o_min, o_i2b, o_i2c, o_i2l, o_l2i, x_fld, j_fget, x_idx, j_aget, x_len, j_alen, x_ofb, x_ite, xs_nil, xs_cons, x_callv, x_calls, s_callv, s_calls, j_recv, j_ret, j_retv, b_cmp, b_and, b_or, b_not, b_ofi, b_ite, b_true, s_skip, s_set, j_ty, j_lset, j_kill, s_inc, s_fput, j_fput, s_fop, s_aput, j_aput, j_nar, s_aop, s_ret, s_retv, s_go, s_pop, x_linc, x_finc, Value.category, if_icmp.holds, List.flatMap_cons, List.flatMap_nil, List.length_cons, List.length_append, List.length_nil, List.set_cons_succ, List.set_cons_zero, List.getElem?_cons_succ, List.getElem?_cons_zero, List.replicate, ite_and', ite_or', ite_int', nI_leI, nI_ltI, nI_eq, nI_add, nI_1, pk_mul, nI_clamp, n_in', nI_pos', nI_pos, n_m1e, n_01, n_10, sT_1, sR_1_0, sR_1_1, sR_1_2, sR_1_3, sR_1_4, sR_1_5, sR_1_6, sR_1_7, sR_1_8, sR_1_9, sT_2, sT_3, sT_4, sT_5, sT_6, sT_7, sT_8, sT_9, sT_10, sT_11, sT_12, sT_13, sT_14, sR_2_1, sR_2_2, sR_2_3, sR_2_4, sR_2_5, sR_2_6, sR_2_7, sR_2_8, sR_2_9, sR_2_10, sR_2_11, sR_2_12, sT_15, sT_16, sT_17, sT_18, sT_19, sT_20, sT_21, sT_22, sT_23, sR_15_1, sR_15_2, sR_15_3, sR_15_4, sR_15_5, sR_15_6, sR_15_7, sR_15_8, sT_24, sT_25, sT_26, sT_27, sT_28, sT_29, sR_24_1, sR_24_2, sR_24_3, sR_24_4, sR_24_5, sT_71, sT_72, sR_71_0, sR_71_1, sR_71_2, sR_71_3, sR_71_4, sT_73, sT_74, sT_75, sR_73_0, sR_73_1, sR_73_2, sR_73_3, sR_73_4, sR_73_5, sT_84, sT_85, sT_86, sT_87, sR_84_0, sR_84_1, sR_84_2, sR_84_3, sR_84_4, sR_84_5, sT_88, sT_89, sR_88_0, sT_90, sT_91, sR_90_0]
