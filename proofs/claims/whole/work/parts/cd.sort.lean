/-! Standing: sortByRanks -/
/-- what the sorting changes -/
def SFr (so ra : Nat) (h h' : jHp) : Prop := (hT h' = hT h ∧ hR h' = hR h ∧ hN h' = hN h ∧ hS h' = hS h) ∧ (∀ a k, a ≠ 83 → a ≠ so → hI h' a k = hI h a k) ∧ ∀ a k, a ≠ ra → hJ h' a k = hJ h a k
theorem SFr_refl (so ra : Nat) (h : jHp) : SFr so ra h h := ⟨⟨rfl, rfl, rfl, rfl⟩, fun _ _ _ _ => rfl, fun _ _ _ => rfl⟩
theorem SFr_trans {so ra : Nat} {h h1 h2 : jHp} (a : SFr so ra h h1) (b : SFr so ra h1 h2) : SFr so ra h h2 := by
  obtain ⟨⟨a1, a2, a3, a4⟩, a5, a6⟩ := a
  obtain ⟨⟨b1, b2, b3, b4⟩, b5, b6⟩ := b
  exact ⟨⟨b1.trans a1, b2.trans a2, b3.trans a3, b4.trans a4⟩, fun x k h1 h2 => (b5 x k h1 h2).trans (a5 x k h1 h2), fun x k h1 => (b6 x k h1).trans (a6 x k h1)⟩
theorem SFr_83 {so ra : Nat} {h h1 : jHp} (f : Fr W83 h h1) : SFr so ra h h1 := by
  obtain ⟨⟨a1, a2, a3, a4, a5⟩, a6⟩ := f
  exact ⟨⟨a1, a2, a4, a5⟩, fun a k h1 _ => a6 a k h1, fun a k _ => by rw [a3]⟩
def Wsr (so a _ : Nat) : Prop := a = 83 ∨ a = so
def Usr (ra a _ : Nat) : Prop := a = ra
theorem SFr_FG {so ra : Nat} {h h1 : jHp} (f : SFr so ra h h1) : FG (Wsr so) (Usr ra) h h1 := by
  obtain ⟨⟨a1, a2, a3, a4⟩, a5, a6⟩ := f
  refine ⟨fun a _ => by rw [a1], by rw [a3]; exact Nat.le_refl _, fun a k _ hn => a5 a k (fun q => hn (Or.inl q)) (fun q => hn (Or.inr q)), fun a k _ hn => a6 a k hn, fun a k _ _ => by rw [a2]⟩
/-- what the sorting reads of ALL -/
def SRd (A : AS) (fa fl ra rl so : Nat) (h : jHp) : Prop := MK A h ∧ (hR h 77 6 = fa ∧ hT h fa = (1, fl) ∧ fa ≠ 0) ∧ (hR h 77 8 = ra ∧ hT h ra = (5, rl) ∧ ra ≠ 0) ∧ (hR h 77 9 = so ∧ hT h so = (1, rl) ∧ so ≠ 0) ∧ hI h 77 7 = nI (sAllR A).length ∧ ((sAllR A).length ≤ fl ∧ fl < 2 ^ 30 ∧ (sAllR A).length ≤ rl ∧ rl < 2 ^ 30) ∧ (fa ≠ so ∧ so ≠ 83 ∧ fa ≠ 83 ∧ so ≠ 77 ∧ 72 ≤ so) ∧ ∀ i, i < (sAllR A).length → hI h fa i = nI ((sAllR A).getD i 0)
theorem SRd_f {A : AS} {fa fl ra rl so : Nat} {h h' : jHp} (r : SRd A fa fl ra rl so h) (f : SFr so ra h h') : SRd A fa fl ra rl so h' := by
  obtain ⟨x, ⟨a1, a2, a3⟩, ⟨b1, b2, b3⟩, ⟨c1, c2, c3⟩, d, e, ⟨n1, n2, n3, n4, n5⟩, g⟩ := r
  have f0 := f
  obtain ⟨⟨f1, f2, f3, f4⟩, f5, f6⟩ := f
  refine ⟨MK_g x (SFr_FG f0) fun a j q => by unfold Wsr at q; omega, ⟨by rw [f2]; exact a1, by rw [f1]; exact a2, a3⟩, ⟨by rw [f2]; exact b1, by rw [f1]; exact b2, b3⟩, ⟨by rw [f2]; exact c1, by rw [f1]; exact c2, c3⟩, by rw [f5 _ _ (by omega) (by omega)]; exact d, e, ⟨n1, n2, n3, n4, n5⟩, fun i hi => by rw [f5 _ _ n3 n1]; exact g i hi⟩
def sm (A : AS) (k : Nat) : Nat := rkS7 A ((sAllR A).getD k 0)
theorem sm_le {A : AS} (w : WF A) (k : Nat) : sm A k ≤ 105 := rkS7_le w _
theorem e_sr_1 {A : AS} {fa fl ra rl so : Nat} {h : jHp} (r : SRd A fa fl ra rl so h) (c0 : ∀ q, q < 128 → hI h 83 q = nI 0) (v2 v3 v4 : Value) : ∃ h', s_loop 1 2 lc_St_sortByRanks_1 lb_St_sortByRanks_1 lu_St_sortByRanks_1 ([.ref 77, .int (nI 0), v2, v3, v4], h) = some (.inl 0, ([.ref 77, .int (nI (sAllR A).length), v2, v3, v4], h')) ∧ SFr so ra h h' ∧ ∀ q, q < 128 → hI h' 83 q = nI (tlC (fun k => sm A k + 1) (sAllR A).length q) := by
  have w := r.1.1.2.1
  have hlen := sAllR_len w
  have hL := loop_wp (lb := 1) (lc := 2) (c := lc_St_sortByRanks_1) (b := lb_St_sortByRanks_1) (u := lu_St_sortByRanks_1) (sAllR A).length
    (fun i st => ∃ h', st = ([.ref 77, .int (nI i), v2, v3, v4], h') ∧ SFr so ra h h' ∧ ∀ q, q < 128 → hI h' 83 q = nI (tlC (fun k => sm A k + 1) i q))
    (fun r => ∃ h', r = (.inl 0, ([.ref 77, .int (nI (sAllR A).length), v2, v3, v4], h')) ∧ SFr so ra h h' ∧ ∀ q, q < 128 → hI h' 83 q = nI (tlC (fun k => sm A k + 1) (sAllR A).length q))
    ?_ ?_ ([.ref 77, .int (nI 0), v2, v3, v4], h) ⟨h, rfl, SFr_refl _ _ _, fun q hq => c0 q hq⟩
  · obtain ⟨q, e, h1, rfl, f1, c1⟩ := hL
    exact ⟨h1, e, f1, c1⟩
  · rintro i st hi ⟨h1, rfl, f1, c1⟩
    left
    have r1 := SRd_f r f1
    obtain ⟨x, ⟨a1, a2, a3⟩, -, -, d, ⟨e1, e2, -, -⟩, -, g⟩ := r1
    have hs1 := x.1.1
    obtain ⟨m1, m2⟩ := KF_mem w hi
    have er := e_St_ranksOf x m1 m2 (FRk_all w hi)
    have es := e_St_sumOf (h := h1) w ((sAllR A).getD i 0)
    have hsm := sm_le w i
    have hsm' : rkS7 A ((sAllR A).getD i 0) = sm A i := rfl
    rw [hsm'] at es
    have g8 := g i hi
    have g1 := c1 (sm A i + 1) (by omega)
    have hin : j_in (nI i) fl = true := n_in' (by omega) (by omega)
    have hin2 : j_in (nI (sm A i + 1)) 128 = true := n_in' (by omega) (by omega)
    have hcl : (nI (sm A i + 1)).toNatClampNeg = sm A i + 1 := nI_clamp (by omega)
    have t3 := sT_77 hs1
    have u3 := sT_83 hs1
    have r3 := sR_77_14 hs1
    refine ⟨([.ref 77, .int (nI (i + 1)), v2, v3, v4], hSetI h1 83 (sm A i + 1) (nI (tlC (fun k => sm A k + 1) i (sm A i + 1) + 1))), ?_, _, rfl, SFr_trans f1 (SFr_83 (Fr_set _ rfl)), fun q hq => ?_⟩
    · clear c1 g c0 r f1 x m1 m2 hsm'
      generalize tlC (fun k => sm A k + 1) i (sm A i + 1) = T at *
      generalize sm A i = R at *
      generalize Int64.ofNat (rkN A ((sAllR A).getD i 0)) = J at *
      generalize (sAllR A).getD i 0 = V at *
      generalize (sAllR A).length = LL at *
      simp (disch := first | assumption | omega) [lstp, lc_St_sortByRanks_1, lb_St_sortByRanks_1, lu_St_sortByRanks_1, j_meth, j_out, j_rok, j_pad, lg_sl, s_seq_w, isN_inl, isN_inr, s_if, jb, x_c, x_iloc, x_aloc, x_lloc, x_bin, x_un, o_add, o_sub, o_mul, o_and, o_or, o_xor, o_shl, o_shr, o_ushr, o_max, o_min, o_i2b, o_i2c, o_i2l, o_l2i, x_fld, j_fget, x_idx, j_aget, x_len, j_alen, x_ofb, x_ite, xs_nil, xs_cons, x_callv, x_calls, s_callv, s_calls, j_recv, j_ret, j_retv, b_cmp, b_and, b_or, b_not, b_ofi, b_ite, b_true, s_skip, s_set, j_ty, j_lset, j_kill, s_inc, s_fput, j_fput, s_fop, s_aput, j_aput, j_nar, s_aop, s_ret, s_retv, s_go, s_pop, x_linc, x_finc, Value.category, if_icmp.holds, List.flatMap_cons, List.flatMap_nil, List.length_cons, List.length_append, List.length_nil, List.set_cons_succ, List.set_cons_zero, List.getElem?_cons_succ, List.getElem?_cons_zero, List.replicate, ite_and', ite_or', ite_int', nI_leI, nI_ltI, nI_eq, nI_add, nI_1, pk_mul, nI_clamp, n_in', nI_pos', nI_pos, n_m1e, n_01, n_10, sT_1, sR_1_0, sR_1_1, sR_1_2, sR_1_3, sR_1_4, sR_1_5, sR_1_6, sR_1_7, sR_1_8, sR_1_9, sT_2, sT_3, sT_4, sT_5, sT_6, sT_7, sT_8, sT_9, sT_10, sT_11, sT_12, sT_13, sT_14, sR_2_1, sR_2_2, sR_2_3, sR_2_4, sR_2_5, sR_2_6, sR_2_7, sR_2_8, sR_2_9, sR_2_10, sR_2_11, sR_2_12, sT_15, sT_16, sT_17, sT_18, sT_19, sT_20, sT_21, sT_22, sT_23, sR_15_1, sR_15_2, sR_15_3, sR_15_4, sR_15_5, sR_15_6, sR_15_7, sR_15_8, sT_24, sT_25, sT_26, sT_27, sT_28, sT_29, sR_24_1, sR_24_2, sR_24_3, sR_24_4, sR_24_5, sT_71, sT_72, sR_71_0, sR_71_1, sR_71_2, sR_71_3, sR_71_4, sT_73, sT_74, sT_75, sR_73_0, sR_73_1, sR_73_2, sR_73_3, sR_73_4, sR_73_5, sT_84, sT_85, sT_86, sT_87, sR_84_0, sR_84_1, sR_84_2, sR_84_3, sR_84_4, sR_84_5, sT_88, sT_89, sR_88_0, sT_90, sT_91, sR_90_0, t3, u3, r3, d, hi, a1, a2, a3, hin, g8, er, es, hin2, hcl, g1]
    · rw [tlC_s, hI_setI]
      by_cases z : q = sm A i + 1
      · rw [if_pos ⟨rfl, z⟩, if_pos z.symm, z]
      · rw [if_neg (fun y => z y.2), if_neg (fun y => z y.symm), Nat.add_zero]
        exact c1 q hq
  · rintro st ⟨h1, rfl, f1, c1⟩
    refine ⟨_, ?_, h1, rfl, f1, c1⟩
    have r1 := SRd_f r f1
    have hs1 := r1.1.1.1
    have d := r1.2.2.2.2.1
    have t3 := sT_77 hs1
    clear c1 f1 r r1
    generalize (sAllR A).length = LL at *
    simp (disch := first | assumption | omega) [lstp, lc_St_sortByRanks_1, lb_St_sortByRanks_1, lu_St_sortByRanks_1, j_meth, j_out, j_rok, j_pad, lg_sl, s_seq_w, isN_inl, isN_inr, s_if, jb, x_c, x_iloc, x_aloc, x_lloc, x_bin, x_un, o_add, o_sub, o_mul, o_and, o_or, o_xor, o_shl, o_shr, o_ushr, o_max, o_min, o_i2b, o_i2c, o_i2l, o_l2i, x_fld, j_fget, x_idx, j_aget, x_len, j_alen, x_ofb, x_ite, xs_nil, xs_cons, x_callv, x_calls, s_callv, s_calls, j_recv, j_ret, j_retv, b_cmp, b_and, b_or, b_not, b_ofi, b_ite, b_true, s_skip, s_set, j_ty, j_lset, j_kill, s_inc, s_fput, j_fput, s_fop, s_aput, j_aput, j_nar, s_aop, s_ret, s_retv, s_go, s_pop, x_linc, x_finc, Value.category, if_icmp.holds, List.flatMap_cons, List.flatMap_nil, List.length_cons, List.length_append, List.length_nil, List.set_cons_succ, List.set_cons_zero, List.getElem?_cons_succ, List.getElem?_cons_zero, List.replicate, ite_and', ite_or', ite_int', nI_leI, nI_ltI, nI_eq, nI_add, nI_1, pk_mul, nI_clamp, n_in', nI_pos', nI_pos, n_m1e, n_01, n_10, sT_1, sR_1_0, sR_1_1, sR_1_2, sR_1_3, sR_1_4, sR_1_5, sR_1_6, sR_1_7, sR_1_8, sR_1_9, sT_2, sT_3, sT_4, sT_5, sT_6, sT_7, sT_8, sT_9, sT_10, sT_11, sT_12, sT_13, sT_14, sR_2_1, sR_2_2, sR_2_3, sR_2_4, sR_2_5, sR_2_6, sR_2_7, sR_2_8, sR_2_9, sR_2_10, sR_2_11, sR_2_12, sT_15, sT_16, sT_17, sT_18, sT_19, sT_20, sT_21, sT_22, sT_23, sR_15_1, sR_15_2, sR_15_3, sR_15_4, sR_15_5, sR_15_6, sR_15_7, sR_15_8, sT_24, sT_25, sT_26, sT_27, sT_28, sT_29, sR_24_1, sR_24_2, sR_24_3, sR_24_4, sR_24_5, sT_71, sT_72, sR_71_0, sR_71_1, sR_71_2, sR_71_3, sR_71_4, sT_73, sT_74, sT_75, sR_73_0, sR_73_1, sR_73_2, sR_73_3, sR_73_4, sR_73_5, sT_84, sT_85, sT_86, sT_87, sR_84_0, sR_84_1, sR_84_2, sR_84_3, sR_84_4, sR_84_5, sT_88, sT_89, sR_88_0, sT_90, sT_91, sR_90_0, t3, d]
theorem e_sr_2 {A : AS} {so ra : Nat} {h : jHp} (hs : Shape h) (w : WF A) (c0 : ∀ q, q < 128 → hI h 83 q = nI (tlC (fun k => sm A k + 1) (sAllR A).length q)) (v2 v3 v4 : Value) : ∃ h', s_loop 3 4 lc_St_sortByRanks_2 lb_St_sortByRanks_2 lu_St_sortByRanks_2 ([.ref 77, .int (nI 1), v2, v3, v4], h) = some (.inl 0, ([.ref 77, .int (nI 128), v2, v3, v4], h')) ∧ SFr so ra h h' ∧ ∀ q, q < 128 → hI h' 83 q = nI (cD (sm A) (sAllR A).length q) := by
  have hlen := sAllR_len w
  have hL := loop_wp (lb := 3) (lc := 4) (c := lc_St_sortByRanks_2) (b := lb_St_sortByRanks_2) (u := lu_St_sortByRanks_2) 127
    (fun i st => ∃ h', st = ([.ref 77, .int (nI (i + 1)), v2, v3, v4], h') ∧ Fr W83 h h' ∧ ∀ q, q < 128 → hI h' 83 q = if q < i + 1 then nI (cD (sm A) (sAllR A).length q) else nI (tlC (fun k => sm A k + 1) (sAllR A).length q))
    (fun r => ∃ h', r = (.inl 0, ([.ref 77, .int (nI 128), v2, v3, v4], h')) ∧ Fr W83 h h' ∧ ∀ q, q < 128 → hI h' 83 q = nI (cD (sm A) (sAllR A).length q))
    ?_ ?_ ([.ref 77, .int (nI 1), v2, v3, v4], h) ⟨h, rfl, Fr_refl _ _, fun q hq => ?_⟩
  · obtain ⟨q, e, h1, rfl, f1, c1⟩ := hL
    exact ⟨h1, e, SFr_83 f1, c1⟩
  · rintro i st hi ⟨h1, rfl, f1, c1⟩
    left
    have hs1 := Fr_shape hs f1
    have t3 := sT_77 hs1
    have u3 := sT_83 hs1
    have r3 := sR_77_14 hs1
    have g1 := c1 (i + 1) (by omega)
    rw [if_neg (by omega), tlC_suc] at g1
    have g0 := c1 i (by omega)
    rw [if_pos (by omega)] at g0
    have hsub : nI (i + 1) - nI 1 = nI i := by rw [pk_sub (by omega)]; rfl
    have hin : j_in (nI i) 128 = true := n_in' (by omega) (by omega)
    have hin1 : j_in (nI (i + 1)) 128 = true := n_in' (by omega) (by omega)
    have hlt : (i + 1 < 128) = True := eq_true (by omega)
    have hcd := cD_s (sm A) i (sAllR A).length
    refine ⟨([.ref 77, .int (nI (i + 1 + 1)), v2, v3, v4], hSetI h1 83 (i + 1) (nI (cD (sm A) (sAllR A).length (i + 1)))), ?_, _, rfl, Fr_trans f1 (Fr_set _ rfl), fun q hq => ?_⟩
    · rw [hcd, Nat.add_comm (cD (sm A) (sAllR A).length i)]
      clear c1 c0 f1 hcd
      generalize cD (sm A) (sAllR A).length i = X at *
      generalize tlC (sm A) (sAllR A).length i = Y at *
      simp (disch := first | assumption | omega) [lstp, lc_St_sortByRanks_2, lb_St_sortByRanks_2, lu_St_sortByRanks_2, j_meth, j_out, j_rok, j_pad, lg_sl, s_seq_w, isN_inl, isN_inr, s_if, jb, x_c, x_iloc, x_aloc, x_lloc, x_bin, x_un, o_add, o_sub, o_mul, o_and, o_or, o_xor, o_shl, o_shr, o_ushr, o_max, o_min, o_i2b, o_i2c, o_i2l, o_l2i, x_fld, j_fget, x_idx, j_aget, x_len, j_alen, x_ofb, x_ite, xs_nil, xs_cons, x_callv, x_calls, s_callv, s_calls, j_recv, j_ret, j_retv, b_cmp, b_and, b_or, b_not, b_ofi, b_ite, b_true, s_skip, s_set, j_ty, j_lset, j_kill, s_inc, s_fput, j_fput, s_fop, s_aput, j_aput, j_nar, s_aop, s_ret, s_retv, s_go, s_pop, x_linc, x_finc, Value.category, if_icmp.holds, List.flatMap_cons, List.flatMap_nil, List.length_cons, List.length_append, List.length_nil, List.set_cons_succ, List.set_cons_zero, List.getElem?_cons_succ, List.getElem?_cons_zero, List.replicate, ite_and', ite_or', ite_int', nI_leI, nI_ltI, nI_eq, nI_add, nI_1, pk_mul, nI_clamp, n_in', nI_pos', nI_pos, n_m1e, n_01, n_10, sT_1, sR_1_0, sR_1_1, sR_1_2, sR_1_3, sR_1_4, sR_1_5, sR_1_6, sR_1_7, sR_1_8, sR_1_9, sT_2, sT_3, sT_4, sT_5, sT_6, sT_7, sT_8, sT_9, sT_10, sT_11, sT_12, sT_13, sT_14, sR_2_1, sR_2_2, sR_2_3, sR_2_4, sR_2_5, sR_2_6, sR_2_7, sR_2_8, sR_2_9, sR_2_10, sR_2_11, sR_2_12, sT_15, sT_16, sT_17, sT_18, sT_19, sT_20, sT_21, sT_22, sT_23, sR_15_1, sR_15_2, sR_15_3, sR_15_4, sR_15_5, sR_15_6, sR_15_7, sR_15_8, sT_24, sT_25, sT_26, sT_27, sT_28, sT_29, sR_24_1, sR_24_2, sR_24_3, sR_24_4, sR_24_5, sT_71, sT_72, sR_71_0, sR_71_1, sR_71_2, sR_71_3, sR_71_4, sT_73, sT_74, sT_75, sR_73_0, sR_73_1, sR_73_2, sR_73_3, sR_73_4, sR_73_5, sT_84, sT_85, sT_86, sT_87, sR_84_0, sR_84_1, sR_84_2, sR_84_3, sR_84_4, sR_84_5, sT_88, sT_89, sR_88_0, sT_90, sT_91, sR_90_0, t3, u3, r3, hlt, hin, hin1, hsub, g0, g1]
    · rw [hI_setI]
      by_cases z : q = i + 1
      · rw [if_pos ⟨rfl, z⟩, if_pos (by omega), z]
      · rw [if_neg (fun y => z y.2), c1 q hq]
        by_cases z2 : q < i + 1
        · rw [if_pos z2, if_pos (by omega)]
        · rw [if_neg z2, if_neg (by omega)]
  · rintro st ⟨h1, rfl, f1, c1⟩
    refine ⟨_, ?_, h1, rfl, f1, fun q hq => by have := c1 q hq; rw [if_pos (by omega)] at this; exact this⟩
    have hs1 := Fr_shape hs f1
    clear c1 f1
    simp (disch := first | assumption | omega) [lstp, lc_St_sortByRanks_2, lb_St_sortByRanks_2, lu_St_sortByRanks_2, j_meth, j_out, j_rok, j_pad, lg_sl, s_seq_w, isN_inl, isN_inr, s_if, jb, x_c, x_iloc, x_aloc, x_lloc, x_bin, x_un, o_add, o_sub, o_mul, o_and, o_or, o_xor, o_shl, o_shr, o_ushr, o_max, o_min, o_i2b, o_i2c, o_i2l, o_l2i, x_fld, j_fget, x_idx, j_aget, x_len, j_alen, x_ofb, x_ite, xs_nil, xs_cons, x_callv, x_calls, s_callv, s_calls, j_recv, j_ret, j_retv, b_cmp, b_and, b_or, b_not, b_ofi, b_ite, b_true, s_skip, s_set, j_ty, j_lset, j_kill, s_inc, s_fput, j_fput, s_fop, s_aput, j_aput, j_nar, s_aop, s_ret, s_retv, s_go, s_pop, x_linc, x_finc, Value.category, if_icmp.holds, List.flatMap_cons, List.flatMap_nil, List.length_cons, List.length_append, List.length_nil, List.set_cons_succ, List.set_cons_zero, List.getElem?_cons_succ, List.getElem?_cons_zero, List.replicate, ite_and', ite_or', ite_int', nI_leI, nI_ltI, nI_eq, nI_add, nI_1, pk_mul, nI_clamp, n_in', nI_pos', nI_pos, n_m1e, n_01, n_10, sT_1, sR_1_0, sR_1_1, sR_1_2, sR_1_3, sR_1_4, sR_1_5, sR_1_6, sR_1_7, sR_1_8, sR_1_9, sT_2, sT_3, sT_4, sT_5, sT_6, sT_7, sT_8, sT_9, sT_10, sT_11, sT_12, sT_13, sT_14, sR_2_1, sR_2_2, sR_2_3, sR_2_4, sR_2_5, sR_2_6, sR_2_7, sR_2_8, sR_2_9, sR_2_10, sR_2_11, sR_2_12, sT_15, sT_16, sT_17, sT_18, sT_19, sT_20, sT_21, sT_22, sT_23, sR_15_1, sR_15_2, sR_15_3, sR_15_4, sR_15_5, sR_15_6, sR_15_7, sR_15_8, sT_24, sT_25, sT_26, sT_27, sT_28, sT_29, sR_24_1, sR_24_2, sR_24_3, sR_24_4, sR_24_5, sT_71, sT_72, sR_71_0, sR_71_1, sR_71_2, sR_71_3, sR_71_4, sT_73, sT_74, sT_75, sR_73_0, sR_73_1, sR_73_2, sR_73_3, sR_73_4, sR_73_5, sT_84, sT_85, sT_86, sT_87, sR_84_0, sR_84_1, sR_84_2, sR_84_3, sR_84_4, sR_84_5, sT_88, sT_89, sR_88_0, sT_90, sT_91, sR_90_0]
  · rw [c0 q hq]
    by_cases z : q < 0 + 1
    · rw [if_pos z]
      have : q = 0 := by omega
      subst this
      rw [tlC_suc0, cD_0]
    · rw [if_neg z]
theorem e_sr_3 {A : AS} {fa fl ra rl so : Nat} {h : jHp} (r : SRd A fa fl ra rl so h) (c0 : ∀ q, q < 128 → hI h 83 q = nI (cD (sm A) (sAllR A).length q)) : ∃ h' st, s_loop 5 6 lc_St_sortByRanks_3 lb_St_sortByRanks_3 lu_St_sortByRanks_3 ([.ref 77, .int (nI 0), .null, .null, .null], h) = some (.inl 0, (.ref 77 :: st, h')) ∧ SFr so ra h h' ∧ ∀ k, k < (sAllR A).length → hI h' so (cP (sm A) (sAllR A).length k) = nI k ∧ hJ h' ra (cP (sm A) (sAllR A).length k) = Int64.ofNat (rkN A ((sAllR A).getD k 0)) := by
  have w := r.1.1.2.1
  have hlen := sAllR_len w
  have hL := loop_wp (lb := 5) (lc := 6) (c := lc_St_sortByRanks_3) (b := lb_St_sortByRanks_3) (u := lu_St_sortByRanks_3) (sAllR A).length
    (fun i st => ∃ h' v2 v3 v4, st = ([.ref 77, .int (nI i), v2, v3, v4], h') ∧ (v3 = .null) ∧ SFr so ra h h' ∧ (∀ q, q < 128 → hI h' 83 q = nI (cD (sm A) (sAllR A).length q + tlC (sm A) i q)) ∧ ∀ k, k < i → hI h' so (cP (sm A) (sAllR A).length k) = nI k ∧ hJ h' ra (cP (sm A) (sAllR A).length k) = Int64.ofNat (rkN A ((sAllR A).getD k 0)))
    (fun r => ∃ h' st, r = (.inl 0, (.ref 77 :: st, h')) ∧ SFr so ra h h' ∧ ∀ k, k < (sAllR A).length → hI h' so (cP (sm A) (sAllR A).length k) = nI k ∧ hJ h' ra (cP (sm A) (sAllR A).length k) = Int64.ofNat (rkN A ((sAllR A).getD k 0)))
    ?_ ?_ ([.ref 77, .int (nI 0), .null, .null, .null], h) ⟨h, .null, .null, .null, rfl, rfl, SFr_refl _ _ _, fun q hq => c0 q hq, fun k hk => by omega⟩
  · obtain ⟨q, e, h1, st, rfl, f1, c1⟩ := hL
    exact ⟨h1, st, e, f1, c1⟩
  · rintro i st hi ⟨h1, v2, v3, v4, rfl, rfl, f1, c1, p1⟩
    left
    have r1 := SRd_f r f1
    obtain ⟨x, ⟨a1, a2, a3⟩, ⟨b1, b2, b3⟩, ⟨s1, s2, s3⟩, d, ⟨e1, e2, e3, e4⟩, ⟨n1, n2, n3, n4, n5⟩, g⟩ := r1
    have hs1 := x.1.1
    obtain ⟨m1, m2⟩ := KF_mem w hi
    have er := e_St_ranksOf x m1 m2 (FRk_all w hi)
    have es := e_St_sumOf (h := h1) w ((sAllR A).getD i 0)
    have hsm := sm_le w i
    have hsm' : rkS7 A ((sAllR A).getD i 0) = sm A i := rfl
    rw [hsm'] at es
    have g8 := g i hi
    have hpl := cP_lt (s := sm A) hi
    have gt : hI h1 83 (sm A i) = nI (cP (sm A) (sAllR A).length i) := c1 (sm A i) (by omega)
    have hin : j_in (nI i) fl = true := n_in' (by omega) (by omega)
    have hin2 : j_in (nI (sm A i)) 128 = true := n_in' (by omega) (by omega)
    have hin3 : j_in (nI (cP (sm A) (sAllR A).length i)) rl = true := n_in' (by omega) (by omega)
    have hcl : (nI (sm A i)).toNatClampNeg = sm A i := nI_clamp (by omega)
    have hcl2 : (nI (cP (sm A) (sAllR A).length i)).toNatClampNeg = cP (sm A) (sAllR A).length i := nI_clamp (by omega)
    have t3 := sT_77 hs1
    have u3 := sT_83 hs1
    have r3 := sR_77_14 hs1
    generalize hh2 : hSetI h1 so (cP (sm A) (sAllR A).length i) (nI i) = h2
    generalize hh3 : hSetJ h2 ra (cP (sm A) (sAllR A).length i) (Int64.ofNat (rkN A ((sAllR A).getD i 0))) = h3
    generalize hh4 : hSetI h3 83 (sm A i) (nI (cP (sm A) (sAllR A).length i + 1)) = h4
    have I4 : ∀ a k, hI h4 a k = if a = 83 ∧ k = sm A i then nI (cP (sm A) (sAllR A).length i + 1) else if a = so ∧ k = cP (sm A) (sAllR A).length i then nI i else hI h1 a k := fun a k => by
      rw [← hh4, hI_setI, ← hh3, hI_setJ, ← hh2, hI_setI]
    have J4 : ∀ a k, hJ h4 a k = if a = ra ∧ k = cP (sm A) (sAllR A).length i then Int64.ofNat (rkN A ((sAllR A).getD i 0)) else hJ h1 a k := fun a k => by
      rw [← hh4, hJ_setI, ← hh3, hJ_setJ, ← hh2, hJ_setI]
    have f4 : SFr so ra h1 h4 := by
      refine ⟨⟨by rw [← hh4, ← hh3, ← hh2]; rfl, by rw [← hh4, ← hh3, ← hh2]; rfl, by rw [← hh4, ← hh3, ← hh2]; rfl, by rw [← hh4, ← hh3, ← hh2]; rfl⟩, fun a k q1 q2 => by rw [I4, if_neg (fun z => q1 z.1), if_neg (fun z => q2 z.1)], fun a k q1 => by rw [J4, if_neg (fun z => q1 z.1)]⟩
    refine ⟨([.ref 77, .int (nI (i + 1)), .long (Int64.ofNat (rkN A ((sAllR A).getD i 0))), .null, .int (nI (sm A i))], h4), ?_, h4, _, _, _, rfl, rfl, SFr_trans f1 f4, fun q hq => ?_, fun k hk => ?_⟩
    · have h83 : hI h2 83 (sm A i) = nI (cP (sm A) (sAllR A).length i) := by rw [← hh2, hI_setI, if_neg (by omega)]; exact gt
      have h83' : hI h3 83 (sm A i) = nI (cP (sm A) (sAllR A).length i) := by rw [← hh3, hI_setJ]; exact h83
      have hs2 : Shape h2 := by rw [← hh2]; exact hs1
      have hs3 : Shape h3 := by rw [← hh3]; exact hs2
      have b1' : hR h2 77 8 = ra := by rw [← hh2]; exact b1
      have b2' : hT h2 ra = (5, rl) := by rw [← hh2]; exact b2
      have t32 := sT_77 hs2
      have u32 := sT_83 hs2
      have r32 := sR_77_14 hs2
      have t33 := sT_77 hs3
      have u33 := sT_83 hs3
      have r33 := sR_77_14 hs3
      clear c1 g c0 r f1 x m1 m2 hsm' p1 I4 J4 f4
      generalize cP (sm A) (sAllR A).length i = T at *
      generalize sm A i = R at *
      generalize Int64.ofNat (rkN A ((sAllR A).getD i 0)) = J at *
      generalize (sAllR A).getD i 0 = V at *
      generalize (sAllR A).length = LL at *
      cases v2 <;> simp (disch := first | assumption | omega) [lstp, lc_St_sortByRanks_3, lb_St_sortByRanks_3, lu_St_sortByRanks_3, j_meth, j_out, j_rok, j_pad, lg_sl, s_seq_w, isN_inl, isN_inr, s_if, jb, x_c, x_iloc, x_aloc, x_lloc, x_bin, x_un, o_add, o_sub, o_mul, o_and, o_or, o_xor, o_shl, o_shr, o_ushr, o_max, o_min, o_i2b, o_i2c, o_i2l, o_l2i, x_fld, j_fget, x_idx, j_aget, x_len, j_alen, x_ofb, x_ite, xs_nil, xs_cons, x_callv, x_calls, s_callv, s_calls, j_recv, j_ret, j_retv, b_cmp, b_and, b_or, b_not, b_ofi, b_ite, b_true, s_skip, s_set, j_ty, j_lset, j_kill, s_inc, s_fput, j_fput, s_fop, s_aput, j_aput, j_nar, s_aop, s_ret, s_retv, s_go, s_pop, x_linc, x_finc, Value.category, if_icmp.holds, List.flatMap_cons, List.flatMap_nil, List.length_cons, List.length_append, List.length_nil, List.set_cons_succ, List.set_cons_zero, List.getElem?_cons_succ, List.getElem?_cons_zero, List.replicate, ite_and', ite_or', ite_int', nI_leI, nI_ltI, nI_eq, nI_add, nI_1, pk_mul, nI_clamp, n_in', nI_pos', nI_pos, n_m1e, n_01, n_10, sT_1, sR_1_0, sR_1_1, sR_1_2, sR_1_3, sR_1_4, sR_1_5, sR_1_6, sR_1_7, sR_1_8, sR_1_9, sT_2, sT_3, sT_4, sT_5, sT_6, sT_7, sT_8, sT_9, sT_10, sT_11, sT_12, sT_13, sT_14, sR_2_1, sR_2_2, sR_2_3, sR_2_4, sR_2_5, sR_2_6, sR_2_7, sR_2_8, sR_2_9, sR_2_10, sR_2_11, sR_2_12, sT_15, sT_16, sT_17, sT_18, sT_19, sT_20, sT_21, sT_22, sT_23, sR_15_1, sR_15_2, sR_15_3, sR_15_4, sR_15_5, sR_15_6, sR_15_7, sR_15_8, sT_24, sT_25, sT_26, sT_27, sT_28, sT_29, sR_24_1, sR_24_2, sR_24_3, sR_24_4, sR_24_5, sT_71, sT_72, sR_71_0, sR_71_1, sR_71_2, sR_71_3, sR_71_4, sT_73, sT_74, sT_75, sR_73_0, sR_73_1, sR_73_2, sR_73_3, sR_73_4, sR_73_5, sT_84, sT_85, sT_86, sT_87, sR_84_0, sR_84_1, sR_84_2, sR_84_3, sR_84_4, sR_84_5, sT_88, sT_89, sR_88_0, sT_90, sT_91, sR_90_0, t3, u3, r3, d, hi, a1, a2, a3, hin, g8, er, es, hin2, hcl, hcl2, gt, s1, s2, s3, hin3, hh2, b1', b2', b3, t32, u32, r32, h83, hh3, t33, u33, r33, h83', hh4]
    · rw [I4]
      by_cases z : q = sm A i
      · rw [if_pos ⟨rfl, z⟩, tlC_s, if_pos z.symm, z]
        congr 1
      · rw [if_neg (fun y => z y.2), if_neg (by omega), tlC_s, if_neg (fun y => z y.symm), Nat.add_zero]
        exact c1 q hq
    · rw [I4, J4]
      by_cases z : k = i
      · subst z
        rw [if_neg (by omega), if_pos ⟨rfl, rfl⟩, if_pos ⟨rfl, rfl⟩]
        exact ⟨rfl, rfl⟩
      · have hne : cP (sm A) (sAllR A).length k ≠ cP (sm A) (sAllR A).length i := fun q => z (cP_inj (by omega) hi q)
        rw [if_neg (by omega), if_neg (fun y => hne y.2), if_neg (fun y => hne y.2)]
        exact p1 k (by omega)
  · rintro st ⟨h1, v2, v3, v4, rfl, rfl, f1, c1, p1⟩
    refine ⟨(.inl 0, ([.ref 77, .int (nI (sAllR A).length), v2, .null, v4], h1)), ?_, h1, [.int (nI (sAllR A).length), v2, .null, v4], rfl, f1, p1⟩
    have r1 := SRd_f r f1
    have hs1 := r1.1.1.1
    have d := r1.2.2.2.2.1
    have t3 := sT_77 hs1
    clear c1 f1 r r1 p1
    generalize (sAllR A).length = LL at *
    simp (disch := first | assumption | omega) [lstp, lc_St_sortByRanks_3, lb_St_sortByRanks_3, lu_St_sortByRanks_3, j_meth, j_out, j_rok, j_pad, lg_sl, s_seq_w, isN_inl, isN_inr, s_if, jb, x_c, x_iloc, x_aloc, x_lloc, x_bin, x_un, o_add, o_sub, o_mul, o_and, o_or, o_xor, o_shl, o_shr, o_ushr, o_max, o_min, o_i2b, o_i2c, o_i2l, o_l2i, x_fld, j_fget, x_idx, j_aget, x_len, j_alen, x_ofb, x_ite, xs_nil, xs_cons, x_callv, x_calls, s_callv, s_calls, j_recv, j_ret, j_retv, b_cmp, b_and, b_or, b_not, b_ofi, b_ite, b_true, s_skip, s_set, j_ty, j_lset, j_kill, s_inc, s_fput, j_fput, s_fop, s_aput, j_aput, j_nar, s_aop, s_ret, s_retv, s_go, s_pop, x_linc, x_finc, Value.category, if_icmp.holds, List.flatMap_cons, List.flatMap_nil, List.length_cons, List.length_append, List.length_nil, List.set_cons_succ, List.set_cons_zero, List.getElem?_cons_succ, List.getElem?_cons_zero, List.replicate, ite_and', ite_or', ite_int', nI_leI, nI_ltI, nI_eq, nI_add, nI_1, pk_mul, nI_clamp, n_in', nI_pos', nI_pos, n_m1e, n_01, n_10, sT_1, sR_1_0, sR_1_1, sR_1_2, sR_1_3, sR_1_4, sR_1_5, sR_1_6, sR_1_7, sR_1_8, sR_1_9, sT_2, sT_3, sT_4, sT_5, sT_6, sT_7, sT_8, sT_9, sT_10, sT_11, sT_12, sT_13, sT_14, sR_2_1, sR_2_2, sR_2_3, sR_2_4, sR_2_5, sR_2_6, sR_2_7, sR_2_8, sR_2_9, sR_2_10, sR_2_11, sR_2_12, sT_15, sT_16, sT_17, sT_18, sT_19, sT_20, sT_21, sT_22, sT_23, sR_15_1, sR_15_2, sR_15_3, sR_15_4, sR_15_5, sR_15_6, sR_15_7, sR_15_8, sT_24, sT_25, sT_26, sT_27, sT_28, sT_29, sR_24_1, sR_24_2, sR_24_3, sR_24_4, sR_24_5, sT_71, sT_72, sR_71_0, sR_71_1, sR_71_2, sR_71_3, sR_71_4, sT_73, sT_74, sT_75, sR_73_0, sR_73_1, sR_73_2, sR_73_3, sR_73_4, sR_73_5, sT_84, sT_85, sT_86, sT_87, sR_84_0, sR_84_1, sR_84_2, sR_84_3, sR_84_4, sR_84_5, sT_88, sT_89, sR_88_0, sT_90, sT_91, sR_90_0, t3, d]
