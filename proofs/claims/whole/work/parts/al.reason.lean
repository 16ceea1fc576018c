/-! reason -/
def hB (A : AS) (f T x : Nat) : Nat := nfo (fun i m => if T.testBit i && decide (plc A f i < plc A f x) then m ||| 2 ^ i else m) (nOf A f) 0
theorem hB_bit (A : AS) (f T x j : Nat) : (hB A f T x).testBit j = (decide (j < nOf A f) && (T.testBit j && decide (plc A f j < plc A f x))) := by
  rw [Bool.eq_iff_iff]
  unfold hB
  rw [or_bits (fun i => T.testBit i && decide (plc A f i < plc A f x)) (fun i => i)]
  simp only [Bool.and_eq_true, decide_eq_true_eq]
  constructor
  · rintro ⟨k, h1, h2, rfl⟩; exact ⟨h1, h2⟩
  · rintro ⟨h1, h2⟩; exact ⟨j, h1, h2, rfl⟩
def rsM (most mon W Y M pr c : Nat) (kp ka : Bool) : Nat := if W.testBit pr then 1 else if most < 1 + M then 2 else if mon < c + Y then 3 else if kp = false then 4 else if ka then 6 else 5
def rsN (A : AS) (f T x : Nat) : Nat := rsM (cMost (chD A f)) ((cMoney (chD A f)).getD 1000000) (pplP A f (hB A f T x) (nOf A f)) (payP A f (hB A f T x) (nOf A f)) (cntN (fun j => (hB A f T x).testBit j) (nOf A f)) (aPe A (bAt A f x)) (aPa A (bAt A f x)) (kPlc A (cKeeps (chD A f)) (pplP A f (hB A f T x) (nOf A f) ||| 2 ^ aPe A (bAt A f x)) (cMost (chD A f))) (kApt (cNevers (chD A f)) (pplP A f (hB A f T x) (nOf A f) ||| 2 ^ aPe A (bAt A f x)))
theorem e_D_reason_loop {A : AS} {h : jHp} (x : CX A h) {k a P ix T c : Nat} (hk : k < 4) (d : CD0 A k a h) (o : COr A k h) (hT : T < 2 ^ nOf A k) (hx : ix < nOf A k) (hc : c ≤ 99) : s_loop 1 2 lc_D_reason_1 lb_D_reason_1 lu_D_reason_1 ([.ref (dA k), .int (nI P), .int (nI ix), .int (nI T), .int (nI 0), .int (nI c), .int (nI 1), .int (nI 0)], h) = some (.inl 0, ([.ref (dA k), .int (nI P), .int (nI ix), .int (nI T), .int (nI (pplP A k (hB A k T ix) (nOf A k))), .int (nI (c + payP A k (hB A k T ix) (nOf A k))), .int (nI (1 + cntN (fun j => (hB A k T ix).testBit j) (nOf A k))), .int (nI (nOf A k))], h)) := by
  have hs := x.1
  have w := x.2.1
  have cb := x.2.2.1
  have hn := w.1.1
  have h20 := w.2.2.1.1
  obtain ⟨t1, r1, r2, r4, r5, r6, t7, t8, t9, -⟩ := DSh_of hs hk
  have n9 : dA k + 9 ≠ 0 := by omega
  have d0 := d.1
  have h8 := nOf_le w k
  have hp8 : 2 ^ nOf A k ≤ 256 := Nat.pow_le_pow_right (n := 2) (by decide) h8
  have c10 : hI h 10 k = nI (nOf A k) := cb.2.2.1 k hk
  have eb := fun i (hi : i < nOf A k) => e_D_bondAt x hk d hi
  have ox := o.1 ix hx
  have px := (plc_ok w hx).1
  have hH := hB_bit A k T ix
  have hL := loop_wp (lb := 1) (lc := 2) (c := lc_D_reason_1) (b := lb_D_reason_1) (u := lu_D_reason_1) (nOf A k)
    (fun i st => st = ([.ref (dA k), .int (nI P), .int (nI ix), .int (nI T), .int (nI (pplP A k (hB A k T ix) i)), .int (nI (c + payP A k (hB A k T ix) i)), .int (nI (1 + cntN (fun j => (hB A k T ix).testBit j) i)), .int (nI i)], h))
    (fun r => r = (.inl 0, ([.ref (dA k), .int (nI P), .int (nI ix), .int (nI T), .int (nI (pplP A k (hB A k T ix) (nOf A k))), .int (nI (c + payP A k (hB A k T ix) (nOf A k))), .int (nI (1 + cntN (fun j => (hB A k T ix).testBit j) (nOf A k))), .int (nI (nOf A k))], h)))
    ?_ ?_ _ rfl
  · obtain ⟨r, e, rfl⟩ := hL
    exact e
  · rintro i st hi rfl
    left
    refine ⟨_, ?_, rfl⟩
    have e1 := eb i hi
    have oi := o.1 i hi
    have pi := (plc_ok w hi).1
    have hbt := n_bit (a := T) (k := i) (by omega) (by omega)
    have hb := (bAt_ok w hi).1
    obtain ⟨q1, -, q3, -⟩ := cb.2.1 _ hb
    have l1 := (w.2.2.1.2.1 _ hb).1
    have l3 := (w.2.2.1.2.1 _ hb).2.2.1
    have hY := payP_le w (f := k) (hB A k T ix) i (by omega)
    have hM := cntN_le (fun j => (hB A k T ix).testBit j) i
    have hHi := hH i
    have hcs : cntN (fun j => (hB A k T ix).testBit j) (i + 1) = if (hB A k T ix).testBit i = true then cntN (fun j => (hB A k T ix).testBit j) i + 1 else cntN (fun j => (hB A k T ix).testBit j) i := rfl
    rw [pplP_s, payP_s, hcs]
    rw [decide_eq_true hi, Bool.true_and] at hHi
    generalize bAt A k i = b at *
    generalize cntN (fun j => (hB A k T ix).testBit j) i = M at *
    generalize pplP A k (hB A k T ix) i = W at *
    generalize payP A k (hB A k T ix) i = Y at *
    have hsh := n_shl 1 (k := aPe A b) (by omega)
    rw [Nat.one_mul] at hsh
    have h00 : (nI 0 = 0) = True := by decide
    have h10 : (nI 1 = 0) = False := by decide
    generalize plc A k i = pi' at *
    generalize plc A k ix = px' at *
    generalize hB A k T ix = H at *
    clear o eb hH d x
    generalize dA k + 9 = D9 at *
    generalize dA k = D at *
    by_cases z : T.testBit i = true
    · rw [z] at hbt
      simp only [Bool.toNat_true] at hbt
      by_cases z2 : pi' < px'
      · rw [z, decide_eq_true z2] at hHi
        have hHi' : H.testBit i = true := hHi
        have ea : c + Y + aPa A b = c + (Y + aPa A b) := Nat.add_assoc _ _ _
        have em : 1 + M + 1 = 1 + (M + 1) := Nat.add_assoc _ _ _
        simp (disch := first | assumption | omega) [lstp, lc_D_reason_1, lb_D_reason_1, lu_D_reason_1, j_meth, j_out, j_rok, j_pad, lg_sl, s_seq_w, isN_inl, isN_inr, s_if, jb, x_c, x_iloc, x_aloc, x_lloc, x_bin, x_un, o_add, o_sub, o_mul, o_and, o_or, o_xor, o_shl, o_shr, o_ushr, o_max, o_min, o_i2b, o_i2c, o_i2l, o_l2i, x_fld, j_fget, x_idx, j_aget, x_len, j_alen, x_ofb, x_ite, xs_nil, xs_cons, x_callv, x_calls, s_callv, s_calls, j_recv, j_ret, j_retv, b_cmp, b_and, b_or, b_not, b_ofi, b_ite, b_true, s_skip, s_set, j_ty, j_lset, j_kill, s_inc, s_fput, j_fput, s_fop, s_aput, j_aput, j_nar, s_aop, s_ret, s_retv, s_go, s_pop, x_linc, x_finc, Value.category, if_icmp.holds, List.flatMap_cons, List.flatMap_nil, List.length_cons, List.length_append, List.length_nil, List.set_cons_succ, List.set_cons_zero, List.getElem?_cons_succ, List.getElem?_cons_zero, List.replicate, ite_and', ite_or', ite_int', nI_leI, nI_ltI, nI_eq, nI_add, nI_1, pk_mul, nI_clamp, n_in', nI_pos', nI_pos, n_m1e, n_01, n_10, sT_1, sR_1_0, sR_1_1, sR_1_2, sR_1_3, sR_1_4, sR_1_5, sR_1_6, sR_1_7, sR_1_8, sR_1_9, sT_2, sT_3, sT_4, sT_5, sT_6, sT_7, sT_8, sT_9, sT_10, sT_11, sT_12, sT_13, sT_14, sR_2_1, sR_2_2, sR_2_3, sR_2_4, sR_2_5, sR_2_6, sR_2_7, sR_2_8, sR_2_9, sR_2_10, sR_2_11, sR_2_12, sT_15, sT_16, sT_17, sT_18, sT_19, sT_20, sT_21, sT_22, sT_23, sR_15_1, sR_15_2, sR_15_3, sR_15_4, sR_15_5, sR_15_6, sR_15_7, sR_15_8, sT_24, sT_25, sT_26, sT_27, sT_28, sT_29, sR_24_1, sR_24_2, sR_24_3, sR_24_4, sR_24_5, sT_71, sT_72, sR_71_0, sR_71_1, sR_71_2, sR_71_3, sR_71_4, sT_73, sT_74, sT_75, sR_73_0, sR_73_1, sR_73_2, sR_73_3, sR_73_4, sR_73_5, sT_84, sT_85, sT_86, sT_87, sR_84_0, sR_84_1, sR_84_2, sR_84_3, sR_84_4, sR_84_5, sT_88, sT_89, sR_88_0, sT_90, sT_91, sR_90_0, t1, r1, d0, c10, hi, hbt, h10, r6, n9, t9, oi, ox, z2, hHi', e1, q1, q3, hsh, n_or, ea, em]
      · rw [decide_eq_false z2, Bool.and_false] at hHi
        simp (disch := first | assumption | omega) [lstp, lc_D_reason_1, lb_D_reason_1, lu_D_reason_1, j_meth, j_out, j_rok, j_pad, lg_sl, s_seq_w, isN_inl, isN_inr, s_if, jb, x_c, x_iloc, x_aloc, x_lloc, x_bin, x_un, o_add, o_sub, o_mul, o_and, o_or, o_xor, o_shl, o_shr, o_ushr, o_max, o_min, o_i2b, o_i2c, o_i2l, o_l2i, x_fld, j_fget, x_idx, j_aget, x_len, j_alen, x_ofb, x_ite, xs_nil, xs_cons, x_callv, x_calls, s_callv, s_calls, j_recv, j_ret, j_retv, b_cmp, b_and, b_or, b_not, b_ofi, b_ite, b_true, s_skip, s_set, j_ty, j_lset, j_kill, s_inc, s_fput, j_fput, s_fop, s_aput, j_aput, j_nar, s_aop, s_ret, s_retv, s_go, s_pop, x_linc, x_finc, Value.category, if_icmp.holds, List.flatMap_cons, List.flatMap_nil, List.length_cons, List.length_append, List.length_nil, List.set_cons_succ, List.set_cons_zero, List.getElem?_cons_succ, List.getElem?_cons_zero, List.replicate, ite_and', ite_or', ite_int', nI_leI, nI_ltI, nI_eq, nI_add, nI_1, pk_mul, nI_clamp, n_in', nI_pos', nI_pos, n_m1e, n_01, n_10, sT_1, sR_1_0, sR_1_1, sR_1_2, sR_1_3, sR_1_4, sR_1_5, sR_1_6, sR_1_7, sR_1_8, sR_1_9, sT_2, sT_3, sT_4, sT_5, sT_6, sT_7, sT_8, sT_9, sT_10, sT_11, sT_12, sT_13, sT_14, sR_2_1, sR_2_2, sR_2_3, sR_2_4, sR_2_5, sR_2_6, sR_2_7, sR_2_8, sR_2_9, sR_2_10, sR_2_11, sR_2_12, sT_15, sT_16, sT_17, sT_18, sT_19, sT_20, sT_21, sT_22, sT_23, sR_15_1, sR_15_2, sR_15_3, sR_15_4, sR_15_5, sR_15_6, sR_15_7, sR_15_8, sT_24, sT_25, sT_26, sT_27, sT_28, sT_29, sR_24_1, sR_24_2, sR_24_3, sR_24_4, sR_24_5, sT_71, sT_72, sR_71_0, sR_71_1, sR_71_2, sR_71_3, sR_71_4, sT_73, sT_74, sT_75, sR_73_0, sR_73_1, sR_73_2, sR_73_3, sR_73_4, sR_73_5, sT_84, sT_85, sT_86, sT_87, sR_84_0, sR_84_1, sR_84_2, sR_84_3, sR_84_4, sR_84_5, sT_88, sT_89, sR_88_0, sT_90, sT_91, sR_90_0, t1, r1, d0, c10, hi, hbt, h10, r6, n9, t9, oi, ox, z2, hHi]
    · have z' : T.testBit i = false := by simpa using z
      rw [z'] at hbt
      simp only [Bool.toNat_false] at hbt
      rw [z', Bool.false_and] at hHi
      simp (disch := first | assumption | omega) [lstp, lc_D_reason_1, lb_D_reason_1, lu_D_reason_1, j_meth, j_out, j_rok, j_pad, lg_sl, s_seq_w, isN_inl, isN_inr, s_if, jb, x_c, x_iloc, x_aloc, x_lloc, x_bin, x_un, o_add, o_sub, o_mul, o_and, o_or, o_xor, o_shl, o_shr, o_ushr, o_max, o_min, o_i2b, o_i2c, o_i2l, o_l2i, x_fld, j_fget, x_idx, j_aget, x_len, j_alen, x_ofb, x_ite, xs_nil, xs_cons, x_callv, x_calls, s_callv, s_calls, j_recv, j_ret, j_retv, b_cmp, b_and, b_or, b_not, b_ofi, b_ite, b_true, s_skip, s_set, j_ty, j_lset, j_kill, s_inc, s_fput, j_fput, s_fop, s_aput, j_aput, j_nar, s_aop, s_ret, s_retv, s_go, s_pop, x_linc, x_finc, Value.category, if_icmp.holds, List.flatMap_cons, List.flatMap_nil, List.length_cons, List.length_append, List.length_nil, List.set_cons_succ, List.set_cons_zero, List.getElem?_cons_succ, List.getElem?_cons_zero, List.replicate, ite_and', ite_or', ite_int', nI_leI, nI_ltI, nI_eq, nI_add, nI_1, pk_mul, nI_clamp, n_in', nI_pos', nI_pos, n_m1e, n_01, n_10, sT_1, sR_1_0, sR_1_1, sR_1_2, sR_1_3, sR_1_4, sR_1_5, sR_1_6, sR_1_7, sR_1_8, sR_1_9, sT_2, sT_3, sT_4, sT_5, sT_6, sT_7, sT_8, sT_9, sT_10, sT_11, sT_12, sT_13, sT_14, sR_2_1, sR_2_2, sR_2_3, sR_2_4, sR_2_5, sR_2_6, sR_2_7, sR_2_8, sR_2_9, sR_2_10, sR_2_11, sR_2_12, sT_15, sT_16, sT_17, sT_18, sT_19, sT_20, sT_21, sT_22, sT_23, sR_15_1, sR_15_2, sR_15_3, sR_15_4, sR_15_5, sR_15_6, sR_15_7, sR_15_8, sT_24, sT_25, sT_26, sT_27, sT_28, sT_29, sR_24_1, sR_24_2, sR_24_3, sR_24_4, sR_24_5, sT_71, sT_72, sR_71_0, sR_71_1, sR_71_2, sR_71_3, sR_71_4, sT_73, sT_74, sT_75, sR_73_0, sR_73_1, sR_73_2, sR_73_3, sR_73_4, sR_73_5, sT_84, sT_85, sT_86, sT_87, sR_84_0, sR_84_1, sR_84_2, sR_84_3, sR_84_4, sR_84_5, sT_88, sT_89, sR_88_0, sT_90, sT_91, sR_90_0, t1, r1, d0, c10, hi, hbt, h00, hHi]
  · rintro st rfl
    refine ⟨_, ?_, rfl⟩
    clear o eb hH d x
    generalize dA k = D at *
    simp (disch := first | assumption | omega) [lstp, lc_D_reason_1, lb_D_reason_1, lu_D_reason_1, j_meth, j_out, j_rok, j_pad, lg_sl, s_seq_w, isN_inl, isN_inr, s_if, jb, x_c, x_iloc, x_aloc, x_lloc, x_bin, x_un, o_add, o_sub, o_mul, o_and, o_or, o_xor, o_shl, o_shr, o_ushr, o_max, o_min, o_i2b, o_i2c, o_i2l, o_l2i, x_fld, j_fget, x_idx, j_aget, x_len, j_alen, x_ofb, x_ite, xs_nil, xs_cons, x_callv, x_calls, s_callv, s_calls, j_recv, j_ret, j_retv, b_cmp, b_and, b_or, b_not, b_ofi, b_ite, b_true, s_skip, s_set, j_ty, j_lset, j_kill, s_inc, s_fput, j_fput, s_fop, s_aput, j_aput, j_nar, s_aop, s_ret, s_retv, s_go, s_pop, x_linc, x_finc, Value.category, if_icmp.holds, List.flatMap_cons, List.flatMap_nil, List.length_cons, List.length_append, List.length_nil, List.set_cons_succ, List.set_cons_zero, List.getElem?_cons_succ, List.getElem?_cons_zero, List.replicate, ite_and', ite_or', ite_int', nI_leI, nI_ltI, nI_eq, nI_add, nI_1, pk_mul, nI_clamp, n_in', nI_pos', nI_pos, n_m1e, n_01, n_10, sT_1, sR_1_0, sR_1_1, sR_1_2, sR_1_3, sR_1_4, sR_1_5, sR_1_6, sR_1_7, sR_1_8, sR_1_9, sT_2, sT_3, sT_4, sT_5, sT_6, sT_7, sT_8, sT_9, sT_10, sT_11, sT_12, sT_13, sT_14, sR_2_1, sR_2_2, sR_2_3, sR_2_4, sR_2_5, sR_2_6, sR_2_7, sR_2_8, sR_2_9, sR_2_10, sR_2_11, sR_2_12, sT_15, sT_16, sT_17, sT_18, sT_19, sT_20, sT_21, sT_22, sT_23, sR_15_1, sR_15_2, sR_15_3, sR_15_4, sR_15_5, sR_15_6, sR_15_7, sR_15_8, sT_24, sT_25, sT_26, sT_27, sT_28, sT_29, sR_24_1, sR_24_2, sR_24_3, sR_24_4, sR_24_5, sT_71, sT_72, sR_71_0, sR_71_1, sR_71_2, sR_71_3, sR_71_4, sT_73, sT_74, sT_75, sR_73_0, sR_73_1, sR_73_2, sR_73_3, sR_73_4, sR_73_5, sT_84, sT_85, sT_86, sT_87, sR_84_0, sR_84_1, sR_84_2, sR_84_3, sR_84_4, sR_84_5, sT_88, sT_89, sR_88_0, sT_90, sT_91, sR_90_0, t1, r1, d0, c10]
theorem e_D_reason {A : AS} {h : jHp} (x : CX A h) {k a P ix bl : Nat} (hk : k < 4) (d : CD0 A k a h) (t : CR A k bl h) (hP : P < 2 ^ nOf A k) (hx : ix < nOf A k) : ∃ h', f_D_reason [.ref (dA k), .int (nI P), .int (nI ix)] h = some (some (.int (nI (if (tP A k 0 P).testBit ix then 0 else rsN A k (tP A k 0 P) ix))), h') ∧ Fr (Wdk k) h h' ∧ CR A k (bl ||| 1) h' := by
  obtain ⟨h1, e1, f1, c1⟩ := e_D_takes x hk d t hP
  refine ⟨h1, ?_, f1, c1⟩
  have hs := x.1
  have w := x.2.1
  have hn := w.1.1
  have h20 := w.2.2.1.1
  have hW : ∀ a j, Wdk k a j → ¬ cC a j := fun a j q => Wdk_cC hk q
  have x1 := CX_fr x f1 hW
  have d1 := CD0_fr hk d f1 hW
  have hs1 := x1.1
  have cb := x1.2.2.1
  obtain ⟨t1, r1, r2, r4, r5, r6, t7, t8, t9, -⟩ := DSh_of hs1 hk
  obtain ⟨t0, -⟩ := DSh_of hs hk
  have h8 := nOf_le w k
  have hp8 : 2 ^ nOf A k ≤ 256 := Nat.pow_le_pow_right (n := 2) (by decide) h8
  have hTl := (tP_spec w (l := 0) hP).1
  have co : COr A k h1 := CO_of c1 (by
    have := Nat.right_le_or (n := bl) (m := 1)
    omega)
  have eb := e_D_bondAt x1 hk d1 hx
  have hb := (bAt_ok w hx).1
  obtain ⟨q1, -, q3, -⟩ := cb.2.1 _ hb
  have l1 := (w.2.2.1.2.1 _ hb).1
  have l3 := (w.2.2.1.2.1 _ hb).2.2.1
  have hL := e_D_reason_loop (P := P) (c := aPa A (bAt A k ix)) x1 hk d1 co hTl hx (by omega)
  have d3 := d1.2.1
  have dca := d1.2.2.1
  have dc := d1.2.2.2
  have u0 := (CA_of hs1 dca).1
  have ha0 : a ≠ 0 := by rcases dca with rfl | rfl | rfl | rfl | rfl <;> decide
  have qm := dc.2.1
  have q2 := dc.2.2.1
  have hC := chD_ok w k
  have hmo : (cMoney (chD A k)).getD 1000000 ≤ 1000000 := by
    cases hc : cMoney (chD A k) with
    | none => simp
    | some z =>
      have := hC.2.1 z hc
      simp only [Option.getD_some]
      omega
  have hms := hC.1
  have hbt := n_bit (a := tP A k 0 P) (k := ix) (by omega) (by omega)
  have hWl := pplP_lt w (f := k) (hB A k (tP A k 0 P) ix) (nOf A k) (Nat.le_refl _)
  have hY := payP_le w (f := k) (hB A k (tP A k 0 P) ix) (nOf A k) (Nat.le_refl _)
  have hM := cntN_le (fun j => (hB A k (tP A k 0 P) ix).testBit j) (nOf A k)
  have hsh := n_shl 1 (k := aPe A (bAt A k ix)) (by omega)
  rw [Nat.one_mul] at hsh
  have h7 : 2 ^ aPe A (bAt A k ix) < 2 ^ 7 := Nat.pow_lt_pow_right (by decide) (by omega)
  have hW7 : pplP A k (hB A k (tP A k 0 P) ix) (nOf A k) < 2 ^ 7 := Nat.lt_of_lt_of_le hWl (Nat.pow_le_pow_right (by decide) hn)
  have hor := Nat.or_lt_two_pow hW7 h7
  have k1 := e_D_keepsPlaces x1 (who := pplP A k (hB A k (tP A k 0 P) ix) (nOf A k) ||| 2 ^ aPe A (bAt A k ix)) (lim := cMost (chD A k)) hk d1 (by omega) (by omega)
  have k3 := e_Ch_keepsApart hs1 dca dc hC (who := pplP A k (hB A k (tP A k 0 P) ix) (nOf A k) ||| 2 ^ aPe A (bAt A k ix)) (by omega)
  have hor2 : nI (pplP A k (hB A k (tP A k 0 P) ix) (nOf A k)) ||| nI (2 ^ aPe A (bAt A k ix)) = nI (pplP A k (hB A k (tP A k 0 P) ix) (nOf A k) ||| 2 ^ aPe A (bAt A k ix)) := n_or _ _
  have hand : pplP A k (hB A k (tP A k 0 P) ix) (nOf A k) &&& 2 ^ aPe A (bAt A k ix) = ((pplP A k (hB A k (tP A k 0 P) ix) (nOf A k)).testBit (aPe A (bAt A k ix))).toNat * 2 ^ aPe A (bAt A k ix) := and_two_pow _ _
  have hand2 : nI (pplP A k (hB A k (tP A k 0 P) ix) (nOf A k)) &&& nI (2 ^ aPe A (bAt A k ix)) = nI (((pplP A k (hB A k (tP A k 0 P) ix) (nOf A k)).testBit (aPe A (bAt A k ix))).toNat * 2 ^ aPe A (bAt A k ix)) := by rw [n_and, hand]
  have hne : (nI (2 ^ aPe A (bAt A k ix)) = 0) = False := by
    have hp := Nat.two_pow_pos (aPe A (bAt A k ix))
    exact eq_false fun e => by
      have := (n_eq0 (by omega)).mp e
      omega
  unfold rsN rsM
  generalize pplP A k (hB A k (tP A k 0 P) ix) (nOf A k) = W at *
  generalize payP A k (hB A k (tP A k 0 P) ix) (nOf A k) = Y at *
  generalize cntN (fun j => (hB A k (tP A k 0 P) ix).testBit j) (nOf A k) = M at *
  generalize kPlc A (cKeeps (chD A k)) (W ||| 2 ^ aPe A (bAt A k ix)) (cMost (chD A k)) = b1 at *
  generalize kApt (cNevers (chD A k)) (W ||| 2 ^ aPe A (bAt A k ix)) = b3 at *
  generalize (cMoney (chD A k)).getD 1000000 = mo at *
  generalize cMost (chD A k) = ms at *
  generalize bAt A k ix = b at *
  generalize tP A k 0 P = T at *
  generalize W.testBit (aPe A b) = tb at *
  clear dc hC d d1 x x1 co c1 f1 t hand hWl hW7
  generalize W ||| 2 ^ aPe A b = WW at *
  generalize 2 ^ aPe A b = pb at *
  generalize dA k = D at *
  have h00 : (nI 0 = 0) = True := by decide
  have h10 : (nI 1 = 0) = False := by decide
  have h11 : ((1 : Int32) = 0) = False := by decide
  by_cases z0 : T.testBit ix = true
  · rw [z0] at hbt
    simp only [Bool.toNat_true] at hbt
    rw [if_pos z0]
    simp (disch := first | assumption | omega) [f_D_reason, body_D_reason, j_meth, j_out, j_rok, j_pad, lg_sl, s_seq_w, isN_inl, isN_inr, s_if, jb, x_c, x_iloc, x_aloc, x_lloc, x_bin, x_un, o_add, o_sub, o_mul, o_and, o_or, o_xor, o_shl, o_shr, o_ushr, o_max, o_min, o_i2b, o_i2c, o_i2l, o_l2i, x_fld, j_fget, x_idx, j_aget, x_len, j_alen, x_ofb, x_ite, xs_nil, xs_cons, x_callv, x_calls, s_callv, s_calls, j_recv, j_ret, j_retv, b_cmp, b_and, b_or, b_not, b_ofi, b_ite, b_true, s_skip, s_set, j_ty, j_lset, j_kill, s_inc, s_fput, j_fput, s_fop, s_aput, j_aput, j_nar, s_aop, s_ret, s_retv, s_go, s_pop, x_linc, x_finc, Value.category, if_icmp.holds, List.flatMap_cons, List.flatMap_nil, List.length_cons, List.length_append, List.length_nil, List.set_cons_succ, List.set_cons_zero, List.getElem?_cons_succ, List.getElem?_cons_zero, List.replicate, ite_and', ite_or', ite_int', nI_leI, nI_ltI, nI_eq, nI_add, nI_1, pk_mul, nI_clamp, n_in', nI_pos', nI_pos, n_m1e, n_01, n_10, sT_1, sR_1_0, sR_1_1, sR_1_2, sR_1_3, sR_1_4, sR_1_5, sR_1_6, sR_1_7, sR_1_8, sR_1_9, sT_2, sT_3, sT_4, sT_5, sT_6, sT_7, sT_8, sT_9, sT_10, sT_11, sT_12, sT_13, sT_14, sR_2_1, sR_2_2, sR_2_3, sR_2_4, sR_2_5, sR_2_6, sR_2_7, sR_2_8, sR_2_9, sR_2_10, sR_2_11, sR_2_12, sT_15, sT_16, sT_17, sT_18, sT_19, sT_20, sT_21, sT_22, sT_23, sR_15_1, sR_15_2, sR_15_3, sR_15_4, sR_15_5, sR_15_6, sR_15_7, sR_15_8, sT_24, sT_25, sT_26, sT_27, sT_28, sT_29, sR_24_1, sR_24_2, sR_24_3, sR_24_4, sR_24_5, sT_71, sT_72, sR_71_0, sR_71_1, sR_71_2, sR_71_3, sR_71_4, sT_73, sT_74, sT_75, sR_73_0, sR_73_1, sR_73_2, sR_73_3, sR_73_4, sR_73_5, sT_84, sT_85, sT_86, sT_87, sR_84_0, sR_84_1, sR_84_2, sR_84_3, sR_84_4, sR_84_5, sT_88, sT_89, sR_88_0, sT_90, sT_91, sR_90_0, t0, e1, hbt, h10]
  · have z0' : T.testBit ix = false := by simpa using z0
    rw [z0'] at hbt
    simp only [Bool.toNat_false] at hbt
    rw [if_neg z0]
    cases tb with
    | true =>
      simp only [Bool.toNat_true, Nat.one_mul] at hand2
      simp (disch := first | assumption | omega) [f_D_reason, body_D_reason, j_meth, j_out, j_rok, j_pad, lg_sl, s_seq_w, isN_inl, isN_inr, s_if, jb, x_c, x_iloc, x_aloc, x_lloc, x_bin, x_un, o_add, o_sub, o_mul, o_and, o_or, o_xor, o_shl, o_shr, o_ushr, o_max, o_min, o_i2b, o_i2c, o_i2l, o_l2i, x_fld, j_fget, x_idx, j_aget, x_len, j_alen, x_ofb, x_ite, xs_nil, xs_cons, x_callv, x_calls, s_callv, s_calls, j_recv, j_ret, j_retv, b_cmp, b_and, b_or, b_not, b_ofi, b_ite, b_true, s_skip, s_set, j_ty, j_lset, j_kill, s_inc, s_fput, j_fput, s_fop, s_aput, j_aput, j_nar, s_aop, s_ret, s_retv, s_go, s_pop, x_linc, x_finc, Value.category, if_icmp.holds, List.flatMap_cons, List.flatMap_nil, List.length_cons, List.length_append, List.length_nil, List.set_cons_succ, List.set_cons_zero, List.getElem?_cons_succ, List.getElem?_cons_zero, List.replicate, ite_and', ite_or', ite_int', nI_leI, nI_ltI, nI_eq, nI_add, nI_1, pk_mul, nI_clamp, n_in', nI_pos', nI_pos, n_m1e, n_01, n_10, sT_1, sR_1_0, sR_1_1, sR_1_2, sR_1_3, sR_1_4, sR_1_5, sR_1_6, sR_1_7, sR_1_8, sR_1_9, sT_2, sT_3, sT_4, sT_5, sT_6, sT_7, sT_8, sT_9, sT_10, sT_11, sT_12, sT_13, sT_14, sR_2_1, sR_2_2, sR_2_3, sR_2_4, sR_2_5, sR_2_6, sR_2_7, sR_2_8, sR_2_9, sR_2_10, sR_2_11, sR_2_12, sT_15, sT_16, sT_17, sT_18, sT_19, sT_20, sT_21, sT_22, sT_23, sR_15_1, sR_15_2, sR_15_3, sR_15_4, sR_15_5, sR_15_6, sR_15_7, sR_15_8, sT_24, sT_25, sT_26, sT_27, sT_28, sT_29, sR_24_1, sR_24_2, sR_24_3, sR_24_4, sR_24_5, sT_71, sT_72, sR_71_0, sR_71_1, sR_71_2, sR_71_3, sR_71_4, sT_73, sT_74, sT_75, sR_73_0, sR_73_1, sR_73_2, sR_73_3, sR_73_4, sR_73_5, sT_84, sT_85, sT_86, sT_87, sR_84_0, sR_84_1, sR_84_2, sR_84_3, sR_84_4, sR_84_5, sT_88, sT_89, sR_88_0, sT_90, sT_91, sR_90_0, t0, e1, hbt, h00, t1, r1, eb, q3, hL, q1, hsh, hand2, hne]
    | false =>
      simp only [Bool.toNat_false, Nat.zero_mul] at hand2
      by_cases z2 : ms < 1 + M
      · simp (disch := first | assumption | omega) [f_D_reason, body_D_reason, j_meth, j_out, j_rok, j_pad, lg_sl, s_seq_w, isN_inl, isN_inr, s_if, jb, x_c, x_iloc, x_aloc, x_lloc, x_bin, x_un, o_add, o_sub, o_mul, o_and, o_or, o_xor, o_shl, o_shr, o_ushr, o_max, o_min, o_i2b, o_i2c, o_i2l, o_l2i, x_fld, j_fget, x_idx, j_aget, x_len, j_alen, x_ofb, x_ite, xs_nil, xs_cons, x_callv, x_calls, s_callv, s_calls, j_recv, j_ret, j_retv, b_cmp, b_and, b_or, b_not, b_ofi, b_ite, b_true, s_skip, s_set, j_ty, j_lset, j_kill, s_inc, s_fput, j_fput, s_fop, s_aput, j_aput, j_nar, s_aop, s_ret, s_retv, s_go, s_pop, x_linc, x_finc, Value.category, if_icmp.holds, List.flatMap_cons, List.flatMap_nil, List.length_cons, List.length_append, List.length_nil, List.set_cons_succ, List.set_cons_zero, List.getElem?_cons_succ, List.getElem?_cons_zero, List.replicate, ite_and', ite_or', ite_int', nI_leI, nI_ltI, nI_eq, nI_add, nI_1, pk_mul, nI_clamp, n_in', nI_pos', nI_pos, n_m1e, n_01, n_10, sT_1, sR_1_0, sR_1_1, sR_1_2, sR_1_3, sR_1_4, sR_1_5, sR_1_6, sR_1_7, sR_1_8, sR_1_9, sT_2, sT_3, sT_4, sT_5, sT_6, sT_7, sT_8, sT_9, sT_10, sT_11, sT_12, sT_13, sT_14, sR_2_1, sR_2_2, sR_2_3, sR_2_4, sR_2_5, sR_2_6, sR_2_7, sR_2_8, sR_2_9, sR_2_10, sR_2_11, sR_2_12, sT_15, sT_16, sT_17, sT_18, sT_19, sT_20, sT_21, sT_22, sT_23, sR_15_1, sR_15_2, sR_15_3, sR_15_4, sR_15_5, sR_15_6, sR_15_7, sR_15_8, sT_24, sT_25, sT_26, sT_27, sT_28, sT_29, sR_24_1, sR_24_2, sR_24_3, sR_24_4, sR_24_5, sT_71, sT_72, sR_71_0, sR_71_1, sR_71_2, sR_71_3, sR_71_4, sT_73, sT_74, sT_75, sR_73_0, sR_73_1, sR_73_2, sR_73_3, sR_73_4, sR_73_5, sT_84, sT_85, sT_86, sT_87, sR_84_0, sR_84_1, sR_84_2, sR_84_3, sR_84_4, sR_84_5, sT_88, sT_89, sR_88_0, sT_90, sT_91, sR_90_0, t0, e1, hbt, h00, t1, r1, eb, q3, hL, q1, hsh, hand2, d3, ha0, u0, qm, z2]
      · by_cases z3 : mo < aPa A b + Y
        · simp (disch := first | assumption | omega) [f_D_reason, body_D_reason, j_meth, j_out, j_rok, j_pad, lg_sl, s_seq_w, isN_inl, isN_inr, s_if, jb, x_c, x_iloc, x_aloc, x_lloc, x_bin, x_un, o_add, o_sub, o_mul, o_and, o_or, o_xor, o_shl, o_shr, o_ushr, o_max, o_min, o_i2b, o_i2c, o_i2l, o_l2i, x_fld, j_fget, x_idx, j_aget, x_len, j_alen, x_ofb, x_ite, xs_nil, xs_cons, x_callv, x_calls, s_callv, s_calls, j_recv, j_ret, j_retv, b_cmp, b_and, b_or, b_not, b_ofi, b_ite, b_true, s_skip, s_set, j_ty, j_lset, j_kill, s_inc, s_fput, j_fput, s_fop, s_aput, j_aput, j_nar, s_aop, s_ret, s_retv, s_go, s_pop, x_linc, x_finc, Value.category, if_icmp.holds, List.flatMap_cons, List.flatMap_nil, List.length_cons, List.length_append, List.length_nil, List.set_cons_succ, List.set_cons_zero, List.getElem?_cons_succ, List.getElem?_cons_zero, List.replicate, ite_and', ite_or', ite_int', nI_leI, nI_ltI, nI_eq, nI_add, nI_1, pk_mul, nI_clamp, n_in', nI_pos', nI_pos, n_m1e, n_01, n_10, sT_1, sR_1_0, sR_1_1, sR_1_2, sR_1_3, sR_1_4, sR_1_5, sR_1_6, sR_1_7, sR_1_8, sR_1_9, sT_2, sT_3, sT_4, sT_5, sT_6, sT_7, sT_8, sT_9, sT_10, sT_11, sT_12, sT_13, sT_14, sR_2_1, sR_2_2, sR_2_3, sR_2_4, sR_2_5, sR_2_6, sR_2_7, sR_2_8, sR_2_9, sR_2_10, sR_2_11, sR_2_12, sT_15, sT_16, sT_17, sT_18, sT_19, sT_20, sT_21, sT_22, sT_23, sR_15_1, sR_15_2, sR_15_3, sR_15_4, sR_15_5, sR_15_6, sR_15_7, sR_15_8, sT_24, sT_25, sT_26, sT_27, sT_28, sT_29, sR_24_1, sR_24_2, sR_24_3, sR_24_4, sR_24_5, sT_71, sT_72, sR_71_0, sR_71_1, sR_71_2, sR_71_3, sR_71_4, sT_73, sT_74, sT_75, sR_73_0, sR_73_1, sR_73_2, sR_73_3, sR_73_4, sR_73_5, sT_84, sT_85, sT_86, sT_87, sR_84_0, sR_84_1, sR_84_2, sR_84_3, sR_84_4, sR_84_5, sT_88, sT_89, sR_88_0, sT_90, sT_91, sR_90_0, t0, e1, hbt, h00, t1, r1, eb, q3, hL, q1, hsh, hand2, d3, ha0, u0, qm, z2, q2, z3]
        · cases b1 with
          | false => simp (disch := first | assumption | omega) [f_D_reason, body_D_reason, j_meth, j_out, j_rok, j_pad, lg_sl, s_seq_w, isN_inl, isN_inr, s_if, jb, x_c, x_iloc, x_aloc, x_lloc, x_bin, x_un, o_add, o_sub, o_mul, o_and, o_or, o_xor, o_shl, o_shr, o_ushr, o_max, o_min, o_i2b, o_i2c, o_i2l, o_l2i, x_fld, j_fget, x_idx, j_aget, x_len, j_alen, x_ofb, x_ite, xs_nil, xs_cons, x_callv, x_calls, s_callv, s_calls, j_recv, j_ret, j_retv, b_cmp, b_and, b_or, b_not, b_ofi, b_ite, b_true, s_skip, s_set, j_ty, j_lset, j_kill, s_inc, s_fput, j_fput, s_fop, s_aput, j_aput, j_nar, s_aop, s_ret, s_retv, s_go, s_pop, x_linc, x_finc, Value.category, if_icmp.holds, List.flatMap_cons, List.flatMap_nil, List.length_cons, List.length_append, List.length_nil, List.set_cons_succ, List.set_cons_zero, List.getElem?_cons_succ, List.getElem?_cons_zero, List.replicate, ite_and', ite_or', ite_int', nI_leI, nI_ltI, nI_eq, nI_add, nI_1, pk_mul, nI_clamp, n_in', nI_pos', nI_pos, n_m1e, n_01, n_10, sT_1, sR_1_0, sR_1_1, sR_1_2, sR_1_3, sR_1_4, sR_1_5, sR_1_6, sR_1_7, sR_1_8, sR_1_9, sT_2, sT_3, sT_4, sT_5, sT_6, sT_7, sT_8, sT_9, sT_10, sT_11, sT_12, sT_13, sT_14, sR_2_1, sR_2_2, sR_2_3, sR_2_4, sR_2_5, sR_2_6, sR_2_7, sR_2_8, sR_2_9, sR_2_10, sR_2_11, sR_2_12, sT_15, sT_16, sT_17, sT_18, sT_19, sT_20, sT_21, sT_22, sT_23, sR_15_1, sR_15_2, sR_15_3, sR_15_4, sR_15_5, sR_15_6, sR_15_7, sR_15_8, sT_24, sT_25, sT_26, sT_27, sT_28, sT_29, sR_24_1, sR_24_2, sR_24_3, sR_24_4, sR_24_5, sT_71, sT_72, sR_71_0, sR_71_1, sR_71_2, sR_71_3, sR_71_4, sT_73, sT_74, sT_75, sR_73_0, sR_73_1, sR_73_2, sR_73_3, sR_73_4, sR_73_5, sT_84, sT_85, sT_86, sT_87, sR_84_0, sR_84_1, sR_84_2, sR_84_3, sR_84_4, sR_84_5, sT_88, sT_89, sR_88_0, sT_90, sT_91, sR_90_0, t0, e1, hbt, h00, t1, r1, eb, q3, hL, q1, hsh, hand2, d3, ha0, u0, qm, z2, q2, z3, hor2, k1]
          | true =>
            cases b3 with
            | false => simp (disch := first | assumption | omega) [f_D_reason, body_D_reason, j_meth, j_out, j_rok, j_pad, lg_sl, s_seq_w, isN_inl, isN_inr, s_if, jb, x_c, x_iloc, x_aloc, x_lloc, x_bin, x_un, o_add, o_sub, o_mul, o_and, o_or, o_xor, o_shl, o_shr, o_ushr, o_max, o_min, o_i2b, o_i2c, o_i2l, o_l2i, x_fld, j_fget, x_idx, j_aget, x_len, j_alen, x_ofb, x_ite, xs_nil, xs_cons, x_callv, x_calls, s_callv, s_calls, j_recv, j_ret, j_retv, b_cmp, b_and, b_or, b_not, b_ofi, b_ite, b_true, s_skip, s_set, j_ty, j_lset, j_kill, s_inc, s_fput, j_fput, s_fop, s_aput, j_aput, j_nar, s_aop, s_ret, s_retv, s_go, s_pop, x_linc, x_finc, Value.category, if_icmp.holds, List.flatMap_cons, List.flatMap_nil, List.length_cons, List.length_append, List.length_nil, List.set_cons_succ, List.set_cons_zero, List.getElem?_cons_succ, List.getElem?_cons_zero, List.replicate, ite_and', ite_or', ite_int', nI_leI, nI_ltI, nI_eq, nI_add, nI_1, pk_mul, nI_clamp, n_in', nI_pos', nI_pos, n_m1e, n_01, n_10, sT_1, sR_1_0, sR_1_1, sR_1_2, sR_1_3, sR_1_4, sR_1_5, sR_1_6, sR_1_7, sR_1_8, sR_1_9, sT_2, sT_3, sT_4, sT_5, sT_6, sT_7, sT_8, sT_9, sT_10, sT_11, sT_12, sT_13, sT_14, sR_2_1, sR_2_2, sR_2_3, sR_2_4, sR_2_5, sR_2_6, sR_2_7, sR_2_8, sR_2_9, sR_2_10, sR_2_11, sR_2_12, sT_15, sT_16, sT_17, sT_18, sT_19, sT_20, sT_21, sT_22, sT_23, sR_15_1, sR_15_2, sR_15_3, sR_15_4, sR_15_5, sR_15_6, sR_15_7, sR_15_8, sT_24, sT_25, sT_26, sT_27, sT_28, sT_29, sR_24_1, sR_24_2, sR_24_3, sR_24_4, sR_24_5, sT_71, sT_72, sR_71_0, sR_71_1, sR_71_2, sR_71_3, sR_71_4, sT_73, sT_74, sT_75, sR_73_0, sR_73_1, sR_73_2, sR_73_3, sR_73_4, sR_73_5, sT_84, sT_85, sT_86, sT_87, sR_84_0, sR_84_1, sR_84_2, sR_84_3, sR_84_4, sR_84_5, sT_88, sT_89, sR_88_0, sT_90, sT_91, sR_90_0, t0, e1, hbt, h00, t1, r1, eb, q3, hL, q1, hsh, hand2, d3, ha0, u0, qm, z2, q2, z3, hor2, k1, k3, h11]
            | true => simp (disch := first | assumption | omega) [f_D_reason, body_D_reason, j_meth, j_out, j_rok, j_pad, lg_sl, s_seq_w, isN_inl, isN_inr, s_if, jb, x_c, x_iloc, x_aloc, x_lloc, x_bin, x_un, o_add, o_sub, o_mul, o_and, o_or, o_xor, o_shl, o_shr, o_ushr, o_max, o_min, o_i2b, o_i2c, o_i2l, o_l2i, x_fld, j_fget, x_idx, j_aget, x_len, j_alen, x_ofb, x_ite, xs_nil, xs_cons, x_callv, x_calls, s_callv, s_calls, j_recv, j_ret, j_retv, b_cmp, b_and, b_or, b_not, b_ofi, b_ite, b_true, s_skip, s_set, j_ty, j_lset, j_kill, s_inc, s_fput, j_fput, s_fop, s_aput, j_aput, j_nar, s_aop, s_ret, s_retv, s_go, s_pop, x_linc, x_finc, Value.category, if_icmp.holds, List.flatMap_cons, List.flatMap_nil, List.length_cons, List.length_append, List.length_nil, List.set_cons_succ, List.set_cons_zero, List.getElem?_cons_succ, List.getElem?_cons_zero, List.replicate, ite_and', ite_or', ite_int', nI_leI, nI_ltI, nI_eq, nI_add, nI_1, pk_mul, nI_clamp, n_in', nI_pos', nI_pos, n_m1e, n_01, n_10, sT_1, sR_1_0, sR_1_1, sR_1_2, sR_1_3, sR_1_4, sR_1_5, sR_1_6, sR_1_7, sR_1_8, sR_1_9, sT_2, sT_3, sT_4, sT_5, sT_6, sT_7, sT_8, sT_9, sT_10, sT_11, sT_12, sT_13, sT_14, sR_2_1, sR_2_2, sR_2_3, sR_2_4, sR_2_5, sR_2_6, sR_2_7, sR_2_8, sR_2_9, sR_2_10, sR_2_11, sR_2_12, sT_15, sT_16, sT_17, sT_18, sT_19, sT_20, sT_21, sT_22, sT_23, sR_15_1, sR_15_2, sR_15_3, sR_15_4, sR_15_5, sR_15_6, sR_15_7, sR_15_8, sT_24, sT_25, sT_26, sT_27, sT_28, sT_29, sR_24_1, sR_24_2, sR_24_3, sR_24_4, sR_24_5, sT_71, sT_72, sR_71_0, sR_71_1, sR_71_2, sR_71_3, sR_71_4, sT_73, sT_74, sT_75, sR_73_0, sR_73_1, sR_73_2, sR_73_3, sR_73_4, sR_73_5, sT_84, sT_85, sT_86, sT_87, sR_84_0, sR_84_1, sR_84_2, sR_84_3, sR_84_4, sR_84_5, sT_88, sT_89, sR_88_0, sT_90, sT_91, sR_90_0, t0, e1, hbt, h00, t1, r1, eb, q3, hL, q1, hsh, hand2, d3, ha0, u0, qm, z2, q2, z3, hor2, k1, k3, h11]
