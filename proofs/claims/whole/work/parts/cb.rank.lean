/-! Standing: ranksOf, sumOf, isBeyond -/
def gR (A : AS) (S i k p : Nat) : Nat := match sCpl A p with
  | none => if p < i then (sRnk A S p).getD 0 else 0
  | some c => if c < k ∧ aC1 A c = p then (sRkc A S c).getD 0 else 0
theorem gR_lt {A : AS} (w : WF A) (S i k p : Nat) : gR A S i k p < 16 := by
  unfold gR
  cases hc : sCpl A p with
  | none =>
    simp only
    split
    · cases hq : sRnk A S p with
      | none => simp
      | some n => have := sRnk_lt w hq; simp; omega
    · decide
  | some c =>
    simp only
    split
    · cases hq : sRkc A S c with
      | none => simp
      | some n => have := sRkc_lt w hq; simp; omega
    · decide
theorem gR_end {A : AS} (w : WF A) (S p : Nat) : gR A S (aNp A) (aNc A) p = gF A S p := by
  unfold gR gF rkF
  cases hc : sCpl A p with
  | none =>
    by_cases hp : p < aNp A
    · simp [hp]
    · simp [hp]
  | some c =>
    have h1 := sCpl_lt hc
    have hp : p < aNp A := by
      have := (sCpl_iff w h1).mp hc
      have h2 := w.2.2.2.2.1.2.1 c h1
      rcases this with e | e
      · rw [← e]; exact h2.1
      · rw [← e]; exact h2.2.1
    simp [hp, h1]
theorem e_St_ranksOf {A : AS} {h : jHp} (x : MK A h) {S : Nat} (hS : S < 2 ^ aNb A) (hm : sMat A S) (hr : FRk A S) : f_St_ranksOf [.ref 77, .int (nI S)] h = some (some (.long (Int64.ofNat (rkN A S))), h) := by
  have hs := x.1.1
  have w := x.1.2.1
  have hn := w.1.1
  have hnc := w.2.2.2.2.1.1
  have c0 := x.1.2.2.2.1
  have cc := x.2
  have t77 := sT_77 hs
  have r0 := sR_77_0 hs
  have r1 := sR_77_1 hs
  have r2 := sR_77_2 hs
  have h10 : ((1 : Int32) = 0) = False := by decide
  have hL := loop_wp (lb := 1) (lc := 2) (c := lc_St_ranksOf_1) (b := lb_St_ranksOf_1) (u := lu_St_ranksOf_1) (aNp A)
    (fun i st => st = ([.ref 77, .int (nI S), .long (Int64.ofNat (fN (gR A S i 0) 7)), .null, .int (nI i)], h))
    (fun r => r = (.inl 0, ([.ref 77, .int (nI S), .long (Int64.ofNat (fN (gR A S (aNp A) 0) 7)), .null, .int (nI (aNp A))], h)))
    ?_ ?_ ([.ref 77, .int (nI S), .long 0, .null, .int (nI 0)], h) ?_
  rotate_left
  · rintro i st hi rfl
    left
    have es := e_P_isSingle hs w x.1.2.2.2 (nI i)
    rw [nI_clamp (by omega), n_in (by omega)] at es
    cases hc : sCpl A i with
    | some c =>
      rw [hc] at es
      simp at es
      have he : fN (gR A S (i + 1) 0) 7 = fN (gR A S i 0) 7 := fN_cg fun p _ => by
        unfold gR
        cases hp : sCpl A p with
        | some d => rfl
        | none =>
          have : p ≠ i := fun q => by rw [q, hc] at hp; cases hp
          have h2 : (p < i + 1) = (p < i) := by apply propext; omega
          simp only [h2]
      refine ⟨([.ref 77, .int (nI S), .long (Int64.ofNat (fN (gR A S (i + 1) 0) 7)), .null, .int (nI (i + 1))], h), ?_, rfl⟩
      rw [he]
      clear he
      generalize Int64.ofNat (fN (gR A S i 0) 7) = J at *
      simp (disch := first | assumption | omega) [lstp, lc_St_ranksOf_1, lb_St_ranksOf_1, lu_St_ranksOf_1, j_meth, j_out, j_rok, j_pad, lg_sl, s_seq_w, isN_inl, isN_inr, s_if, jb, x_c, x_iloc, x_aloc, x_lloc, x_bin, x_un, o_add, o_sub, o_mul, o_and, o_or, o_xor, o_shl, o_shr, o_ushr, o_max, o_min, o_i2b, o_i2c, o_i2l, o_l2i, x_fld, j_fget, x_idx, j_aget, x_len, j_alen, x_ofb, x_ite, xs_nil, xs_cons, x_callv, x_calls, s_callv, s_calls, j_recv, j_ret, j_retv, b_cmp, b_and, b_or, b_not, b_ofi, b_ite, b_true, s_skip, s_set, j_ty, j_lset, j_kill, s_inc, s_fput, j_fput, s_fop, s_aput, j_aput, j_nar, s_aop, s_ret, s_retv, s_go, s_pop, x_linc, x_finc, Value.category, if_icmp.holds, List.flatMap_cons, List.flatMap_nil, List.length_cons, List.length_append, List.length_nil, List.set_cons_succ, List.set_cons_zero, List.getElem?_cons_succ, List.getElem?_cons_zero, List.replicate, ite_and', ite_or', ite_int', nI_leI, nI_ltI, nI_eq, nI_add, nI_1, pk_mul, nI_clamp, n_in', nI_pos', nI_pos, n_m1e, n_01, n_10, sT_1, sR_1_0, sR_1_1, sR_1_2, sR_1_3, sR_1_4, sR_1_5, sR_1_6, sR_1_7, sR_1_8, sR_1_9, sT_2, sT_3, sT_4, sT_5, sT_6, sT_7, sT_8, sT_9, sT_10, sT_11, sT_12, sT_13, sT_14, sR_2_1, sR_2_2, sR_2_3, sR_2_4, sR_2_5, sR_2_6, sR_2_7, sR_2_8, sR_2_9, sR_2_10, sR_2_11, sR_2_12, sT_15, sT_16, sT_17, sT_18, sT_19, sT_20, sT_21, sT_22, sT_23, sR_15_1, sR_15_2, sR_15_3, sR_15_4, sR_15_5, sR_15_6, sR_15_7, sR_15_8, sT_24, sT_25, sT_26, sT_27, sT_28, sT_29, sR_24_1, sR_24_2, sR_24_3, sR_24_4, sR_24_5, sT_71, sT_72, sR_71_0, sR_71_1, sR_71_2, sR_71_3, sR_71_4, sT_73, sT_74, sT_75, sR_73_0, sR_73_1, sR_73_2, sR_73_3, sR_73_4, sR_73_5, sT_84, sT_85, sT_86, sT_87, sR_84_0, sR_84_1, sR_84_2, sR_84_3, sR_84_4, sR_84_5, sT_88, sT_89, sR_88_0, sT_90, sT_91, sR_90_0, t77, r0, c0, hi, es]
    | none =>
      rw [if_pos ⟨by simpa using hi, hc⟩] at es
      obtain ⟨n, n5, hq⟩ := hr.1 i hi hc
      have er := e_Ma_rankOfPerson x (p := i) (by omega) hS hm
      rw [hq] at er
      have ha := rI_and (o := some n) fun m hm => by cases hm; omega
      have ha : oI (some n) &&& nI 15 = nI n := ha
      have hor := fN_or (g := gR A S i 0) (fun p => by have := gR_lt w S i 0 p; omega) (q := i) (r := n) (by omega) (by unfold gR; rw [hc]; simp) (by omega)
      have he : fN (fun p => if p = i then n else gR A S i 0 p) 7 = fN (gR A S (i + 1) 0) 7 := fN_cg fun p _ => by
        by_cases q : p = i
        · subst q
          rw [if_pos rfl]
          unfold gR
          rw [hc, hq]
          simp
        · rw [if_neg q]
          unfold gR
          cases hp : sCpl A p with
          | some d => rfl
          | none =>
            have h2 : (p < i + 1) = (p < i) := by apply propext; omega
            simp only [h2]
      rw [he] at hor
      have hpw : (2 : Nat) ^ (5 * i) ≤ 2 ^ 30 := Nat.pow_le_pow_right (by decide) (by omega)
      have hsh := jJ_shl (a := n) (k := 5 * i) (by omega) (by
        have : n * 2 ^ (5 * i) ≤ 5 * 2 ^ 30 := Nat.mul_le_mul n5 hpw
        omega)
      have h2l := jJ_i2l (a := n) (by omega)
      have hj := jJ_or (fN (gR A S i 0) 7) (n * 2 ^ (5 * i))
      rw [hor] at hj
      have hmul : nI 5 * nI i = nI (5 * i) := pk_mul _ _
      refine ⟨([.ref 77, .int (nI S), .long (Int64.ofNat (fN (gR A S (i + 1) 0) 7)), .null, .int (nI (i + 1))], h), ?_, rfl⟩
      clear he hor
      generalize Int64.ofNat (fN (gR A S (i + 1) 0) 7) = J' at *
      generalize Int64.ofNat (fN (gR A S i 0) 7) = J at *
      generalize n * 2 ^ (5 * i) = Z at *
      generalize oI (some n) = O at *
      simp (disch := first | assumption | omega) [lstp, lc_St_ranksOf_1, lb_St_ranksOf_1, lu_St_ranksOf_1, j_meth, j_out, j_rok, j_pad, lg_sl, s_seq_w, isN_inl, isN_inr, s_if, jb, x_c, x_iloc, x_aloc, x_lloc, x_bin, x_un, o_add, o_sub, o_mul, o_and, o_or, o_xor, o_shl, o_shr, o_ushr, o_max, o_min, o_i2b, o_i2c, o_i2l, o_l2i, x_fld, j_fget, x_idx, j_aget, x_len, j_alen, x_ofb, x_ite, xs_nil, xs_cons, x_callv, x_calls, s_callv, s_calls, j_recv, j_ret, j_retv, b_cmp, b_and, b_or, b_not, b_ofi, b_ite, b_true, s_skip, s_set, j_ty, j_lset, j_kill, s_inc, s_fput, j_fput, s_fop, s_aput, j_aput, j_nar, s_aop, s_ret, s_retv, s_go, s_pop, x_linc, x_finc, Value.category, if_icmp.holds, List.flatMap_cons, List.flatMap_nil, List.length_cons, List.length_append, List.length_nil, List.set_cons_succ, List.set_cons_zero, List.getElem?_cons_succ, List.getElem?_cons_zero, List.replicate, ite_and', ite_or', ite_int', nI_leI, nI_ltI, nI_eq, nI_add, nI_1, pk_mul, nI_clamp, n_in', nI_pos', nI_pos, n_m1e, n_01, n_10, sT_1, sR_1_0, sR_1_1, sR_1_2, sR_1_3, sR_1_4, sR_1_5, sR_1_6, sR_1_7, sR_1_8, sR_1_9, sT_2, sT_3, sT_4, sT_5, sT_6, sT_7, sT_8, sT_9, sT_10, sT_11, sT_12, sT_13, sT_14, sR_2_1, sR_2_2, sR_2_3, sR_2_4, sR_2_5, sR_2_6, sR_2_7, sR_2_8, sR_2_9, sR_2_10, sR_2_11, sR_2_12, sT_15, sT_16, sT_17, sT_18, sT_19, sT_20, sT_21, sT_22, sT_23, sR_15_1, sR_15_2, sR_15_3, sR_15_4, sR_15_5, sR_15_6, sR_15_7, sR_15_8, sT_24, sT_25, sT_26, sT_27, sT_28, sT_29, sR_24_1, sR_24_2, sR_24_3, sR_24_4, sR_24_5, sT_71, sT_72, sR_71_0, sR_71_1, sR_71_2, sR_71_3, sR_71_4, sT_73, sT_74, sT_75, sR_73_0, sR_73_1, sR_73_2, sR_73_3, sR_73_4, sR_73_5, sT_84, sT_85, sT_86, sT_87, sR_84_0, sR_84_1, sR_84_2, sR_84_3, sR_84_4, sR_84_5, sT_88, sT_89, sR_88_0, sT_90, sT_91, sR_90_0, o_lor, o_lshl, t77, r0, r2, c0, hi, es, h10, er, ha, h2l, hmul, hsh, hj]
  · rintro st rfl
    refine ⟨_, ?_, rfl⟩
    generalize Int64.ofNat (fN (gR A S (aNp A) 0) 7) = J at *
    simp (disch := first | assumption | omega) [lstp, lc_St_ranksOf_1, lb_St_ranksOf_1, lu_St_ranksOf_1, j_meth, j_out, j_rok, j_pad, lg_sl, s_seq_w, isN_inl, isN_inr, s_if, jb, x_c, x_iloc, x_aloc, x_lloc, x_bin, x_un, o_add, o_sub, o_mul, o_and, o_or, o_xor, o_shl, o_shr, o_ushr, o_max, o_min, o_i2b, o_i2c, o_i2l, o_l2i, x_fld, j_fget, x_idx, j_aget, x_len, j_alen, x_ofb, x_ite, xs_nil, xs_cons, x_callv, x_calls, s_callv, s_calls, j_recv, j_ret, j_retv, b_cmp, b_and, b_or, b_not, b_ofi, b_ite, b_true, s_skip, s_set, j_ty, j_lset, j_kill, s_inc, s_fput, j_fput, s_fop, s_aput, j_aput, j_nar, s_aop, s_ret, s_retv, s_go, s_pop, x_linc, x_finc, Value.category, if_icmp.holds, List.flatMap_cons, List.flatMap_nil, List.length_cons, List.length_append, List.length_nil, List.set_cons_succ, List.set_cons_zero, List.getElem?_cons_succ, List.getElem?_cons_zero, List.replicate, ite_and', ite_or', ite_int', nI_leI, nI_ltI, nI_eq, nI_add, nI_1, pk_mul, nI_clamp, n_in', nI_pos', nI_pos, n_m1e, n_01, n_10, sT_1, sR_1_0, sR_1_1, sR_1_2, sR_1_3, sR_1_4, sR_1_5, sR_1_6, sR_1_7, sR_1_8, sR_1_9, sT_2, sT_3, sT_4, sT_5, sT_6, sT_7, sT_8, sT_9, sT_10, sT_11, sT_12, sT_13, sT_14, sR_2_1, sR_2_2, sR_2_3, sR_2_4, sR_2_5, sR_2_6, sR_2_7, sR_2_8, sR_2_9, sR_2_10, sR_2_11, sR_2_12, sT_15, sT_16, sT_17, sT_18, sT_19, sT_20, sT_21, sT_22, sT_23, sR_15_1, sR_15_2, sR_15_3, sR_15_4, sR_15_5, sR_15_6, sR_15_7, sR_15_8, sT_24, sT_25, sT_26, sT_27, sT_28, sT_29, sR_24_1, sR_24_2, sR_24_3, sR_24_4, sR_24_5, sT_71, sT_72, sR_71_0, sR_71_1, sR_71_2, sR_71_3, sR_71_4, sT_73, sT_74, sT_75, sR_73_0, sR_73_1, sR_73_2, sR_73_3, sR_73_4, sR_73_5, sT_84, sT_85, sT_86, sT_87, sR_84_0, sR_84_1, sR_84_2, sR_84_3, sR_84_4, sR_84_5, sT_88, sT_89, sR_88_0, sT_90, sT_91, sR_90_0, t77, r0, c0]
  · have hz : ∀ p, gR A S 0 0 p = 0 := fun p => by
      unfold gR
      cases sCpl A p <;> simp
    have : fN (gR A S 0 0) 7 = 0 := by
      rw [fN_cg (b := fun _ => 0) fun p _ => hz p]
      decide
    rw [this]
    rfl
  obtain ⟨r, e1, rfl⟩ := hL
  have hL2 := loop_wp (lb := 3) (lc := 4) (c := lc_St_ranksOf_2) (b := lb_St_ranksOf_2) (u := lu_St_ranksOf_2) (aNc A)
    (fun i st => st = ([.ref 77, .int (nI S), .long (Int64.ofNat (fN (gR A S (aNp A) i) 7)), .null, .int (nI i)], h))
    (fun r => r = (.inl 0, ([.ref 77, .int (nI S), .long (Int64.ofNat (fN (gR A S (aNp A) (aNc A)) 7)), .null, .int (nI (aNc A))], h)))
    ?_ ?_ ([.ref 77, .int (nI S), .long (Int64.ofNat (fN (gR A S (aNp A) 0) 7)), .null, .int (nI 0)], h) rfl
  · obtain ⟨r, e2, rfl⟩ := hL2
    have he : fN (gR A S (aNp A) (aNc A)) 7 = rkN A S := by
      rw [rkN_fN]
      exact fN_cg fun p _ => gR_end w S p
    rw [he] at e2
    simp only [nI_0] at e1 e2
    generalize Int64.ofNat (rkN A S) = J' at *
    generalize Int64.ofNat (fN (gR A S (aNp A) 0) 7) = J at *
    simp (disch := first | assumption | omega) [f_St_ranksOf, body_St_ranksOf, j_meth, j_out, j_rok, j_pad, lg_sl, s_seq_w, isN_inl, isN_inr, s_if, jb, x_c, x_iloc, x_aloc, x_lloc, x_bin, x_un, o_add, o_sub, o_mul, o_and, o_or, o_xor, o_shl, o_shr, o_ushr, o_max, o_min, o_i2b, o_i2c, o_i2l, o_l2i, x_fld, j_fget, x_idx, j_aget, x_len, j_alen, x_ofb, x_ite, xs_nil, xs_cons, x_callv, x_calls, s_callv, s_calls, j_recv, j_ret, j_retv, b_cmp, b_and, b_or, b_not, b_ofi, b_ite, b_true, s_skip, s_set, j_ty, j_lset, j_kill, s_inc, s_fput, j_fput, s_fop, s_aput, j_aput, j_nar, s_aop, s_ret, s_retv, s_go, s_pop, x_linc, x_finc, Value.category, if_icmp.holds, List.flatMap_cons, List.flatMap_nil, List.length_cons, List.length_append, List.length_nil, List.set_cons_succ, List.set_cons_zero, List.getElem?_cons_succ, List.getElem?_cons_zero, List.replicate, ite_and', ite_or', ite_int', nI_leI, nI_ltI, nI_eq, nI_add, nI_1, pk_mul, nI_clamp, n_in', nI_pos', nI_pos, n_m1e, n_01, n_10, sT_1, sR_1_0, sR_1_1, sR_1_2, sR_1_3, sR_1_4, sR_1_5, sR_1_6, sR_1_7, sR_1_8, sR_1_9, sT_2, sT_3, sT_4, sT_5, sT_6, sT_7, sT_8, sT_9, sT_10, sT_11, sT_12, sT_13, sT_14, sR_2_1, sR_2_2, sR_2_3, sR_2_4, sR_2_5, sR_2_6, sR_2_7, sR_2_8, sR_2_9, sR_2_10, sR_2_11, sR_2_12, sT_15, sT_16, sT_17, sT_18, sT_19, sT_20, sT_21, sT_22, sT_23, sR_15_1, sR_15_2, sR_15_3, sR_15_4, sR_15_5, sR_15_6, sR_15_7, sR_15_8, sT_24, sT_25, sT_26, sT_27, sT_28, sT_29, sR_24_1, sR_24_2, sR_24_3, sR_24_4, sR_24_5, sT_71, sT_72, sR_71_0, sR_71_1, sR_71_2, sR_71_3, sR_71_4, sT_73, sT_74, sT_75, sR_73_0, sR_73_1, sR_73_2, sR_73_3, sR_73_4, sR_73_5, sT_84, sT_85, sT_86, sT_87, sR_84_0, sR_84_1, sR_84_2, sR_84_3, sR_84_4, sR_84_5, sT_88, sT_89, sR_88_0, sT_90, sT_91, sR_90_0, nI_0, e1, e2]
  · rintro i st hi rfl
    left
    obtain ⟨n, n8, hq⟩ := hr.2 i hi
    have er := e_Ma_rankOfCouple x hi hS hm
    rw [hq] at er
    have ha : oI (some n) &&& nI 15 = nI n := rI_and (o := some n) fun m hm => by cases hm; omega
    have hc1 := (w.2.2.2.2.1.2.1 i hi).1
    have hcc : sCpl A (aC1 A i) = some i := (sCpl_iff w hi).mpr (Or.inl rfl)
    have g25 := (cc.2.1 i hi).1
    have c24 := cc.1
    have hor := fN_or (g := gR A S (aNp A) i) (fun p => by have := gR_lt w S (aNp A) i p; omega) (q := aC1 A i) (r := n) (by omega) (by unfold gR; rw [hcc]; simp) (by omega)
    have he : fN (fun p => if p = aC1 A i then n else gR A S (aNp A) i p) 7 = fN (gR A S (aNp A) (i + 1)) 7 := fN_cg fun p _ => by
      by_cases q : p = aC1 A i
      · rw [if_pos q]
        unfold gR
        rw [q, hcc]
        simp [hq]
      · rw [if_neg q]
        unfold gR
        cases hp : sCpl A p with
        | none => rfl
        | some d =>
          simp only
          have h2 : (d < i + 1 ∧ aC1 A d = p) = (d < i ∧ aC1 A d = p) := by
            apply propext
            constructor
            · rintro ⟨z1, z2⟩
              refine ⟨?_, z2⟩
              apply Nat.lt_of_le_of_ne (by omega)
              intro e
              rw [e] at z2
              exact q z2.symm
            · rintro ⟨z1, z2⟩; exact ⟨by omega, z2⟩
          simp only [h2]
    rw [he] at hor
    have hpw : (2 : Nat) ^ (5 * aC1 A i) ≤ 2 ^ 30 := Nat.pow_le_pow_right (by decide) (by omega)
    have hsh := jJ_shl (a := n) (k := 5 * aC1 A i) (by omega) (by
      have : n * 2 ^ (5 * aC1 A i) ≤ 8 * 2 ^ 30 := Nat.mul_le_mul n8 hpw
      omega)
    have h2l := jJ_i2l (a := n) (by omega)
    have hj := jJ_or (fN (gR A S (aNp A) i) 7) (n * 2 ^ (5 * aC1 A i))
    rw [hor] at hj
    have hmul : nI 5 * nI (aC1 A i) = nI (5 * aC1 A i) := pk_mul _ _
    have hi2 : i < 2 := by omega
    refine ⟨([.ref 77, .int (nI S), .long (Int64.ofNat (fN (gR A S (aNp A) (i + 1)) 7)), .null, .int (nI (i + 1))], h), ?_, rfl⟩
    clear he hor e1
    generalize Int64.ofNat (fN (gR A S (aNp A) (i + 1)) 7) = J' at *
    generalize Int64.ofNat (fN (gR A S (aNp A) i) 7) = J at *
    generalize n * 2 ^ (5 * aC1 A i) = Z at *
    generalize oI (some n) = O at *
    simp (disch := first | assumption | omega) [lstp, lc_St_ranksOf_2, lb_St_ranksOf_2, lu_St_ranksOf_2, j_meth, j_out, j_rok, j_pad, lg_sl, s_seq_w, isN_inl, isN_inr, s_if, jb, x_c, x_iloc, x_aloc, x_lloc, x_bin, x_un, o_add, o_sub, o_mul, o_and, o_or, o_xor, o_shl, o_shr, o_ushr, o_max, o_min, o_i2b, o_i2c, o_i2l, o_l2i, x_fld, j_fget, x_idx, j_aget, x_len, j_alen, x_ofb, x_ite, xs_nil, xs_cons, x_callv, x_calls, s_callv, s_calls, j_recv, j_ret, j_retv, b_cmp, b_and, b_or, b_not, b_ofi, b_ite, b_true, s_skip, s_set, j_ty, j_lset, j_kill, s_inc, s_fput, j_fput, s_fop, s_aput, j_aput, j_nar, s_aop, s_ret, s_retv, s_go, s_pop, x_linc, x_finc, Value.category, if_icmp.holds, List.flatMap_cons, List.flatMap_nil, List.length_cons, List.length_append, List.length_nil, List.set_cons_succ, List.set_cons_zero, List.getElem?_cons_succ, List.getElem?_cons_zero, List.replicate, ite_and', ite_or', ite_int', nI_leI, nI_ltI, nI_eq, nI_add, nI_1, pk_mul, nI_clamp, n_in', nI_pos', nI_pos, n_m1e, n_01, n_10, sT_1, sR_1_0, sR_1_1, sR_1_2, sR_1_3, sR_1_4, sR_1_5, sR_1_6, sR_1_7, sR_1_8, sR_1_9, sT_2, sT_3, sT_4, sT_5, sT_6, sT_7, sT_8, sT_9, sT_10, sT_11, sT_12, sT_13, sT_14, sR_2_1, sR_2_2, sR_2_3, sR_2_4, sR_2_5, sR_2_6, sR_2_7, sR_2_8, sR_2_9, sR_2_10, sR_2_11, sR_2_12, sT_15, sT_16, sT_17, sT_18, sT_19, sT_20, sT_21, sT_22, sT_23, sR_15_1, sR_15_2, sR_15_3, sR_15_4, sR_15_5, sR_15_6, sR_15_7, sR_15_8, sT_24, sT_25, sT_26, sT_27, sT_28, sT_29, sR_24_1, sR_24_2, sR_24_3, sR_24_4, sR_24_5, sT_71, sT_72, sR_71_0, sR_71_1, sR_71_2, sR_71_3, sR_71_4, sT_73, sT_74, sT_75, sR_73_0, sR_73_1, sR_73_2, sR_73_3, sR_73_4, sR_73_5, sT_84, sT_85, sT_86, sT_87, sR_84_0, sR_84_1, sR_84_2, sR_84_3, sR_84_4, sR_84_5, sT_88, sT_89, sR_88_0, sT_90, sT_91, sR_90_0, o_lor, o_lshl, t77, r1, r2, c24, hi, g25, er, ha, h2l, hmul, hsh, hj]
  · rintro st rfl
    refine ⟨_, ?_, rfl⟩
    have c24 := cc.1
    clear e1
    generalize Int64.ofNat (fN (gR A S (aNp A) (aNc A)) 7) = J at *
    simp (disch := first | assumption | omega) [lstp, lc_St_ranksOf_2, lb_St_ranksOf_2, lu_St_ranksOf_2, j_meth, j_out, j_rok, j_pad, lg_sl, s_seq_w, isN_inl, isN_inr, s_if, jb, x_c, x_iloc, x_aloc, x_lloc, x_bin, x_un, o_add, o_sub, o_mul, o_and, o_or, o_xor, o_shl, o_shr, o_ushr, o_max, o_min, o_i2b, o_i2c, o_i2l, o_l2i, x_fld, j_fget, x_idx, j_aget, x_len, j_alen, x_ofb, x_ite, xs_nil, xs_cons, x_callv, x_calls, s_callv, s_calls, j_recv, j_ret, j_retv, b_cmp, b_and, b_or, b_not, b_ofi, b_ite, b_true, s_skip, s_set, j_ty, j_lset, j_kill, s_inc, s_fput, j_fput, s_fop, s_aput, j_aput, j_nar, s_aop, s_ret, s_retv, s_go, s_pop, x_linc, x_finc, Value.category, if_icmp.holds, List.flatMap_cons, List.flatMap_nil, List.length_cons, List.length_append, List.length_nil, List.set_cons_succ, List.set_cons_zero, List.getElem?_cons_succ, List.getElem?_cons_zero, List.replicate, ite_and', ite_or', ite_int', nI_leI, nI_ltI, nI_eq, nI_add, nI_1, pk_mul, nI_clamp, n_in', nI_pos', nI_pos, n_m1e, n_01, n_10, sT_1, sR_1_0, sR_1_1, sR_1_2, sR_1_3, sR_1_4, sR_1_5, sR_1_6, sR_1_7, sR_1_8, sR_1_9, sT_2, sT_3, sT_4, sT_5, sT_6, sT_7, sT_8, sT_9, sT_10, sT_11, sT_12, sT_13, sT_14, sR_2_1, sR_2_2, sR_2_3, sR_2_4, sR_2_5, sR_2_6, sR_2_7, sR_2_8, sR_2_9, sR_2_10, sR_2_11, sR_2_12, sT_15, sT_16, sT_17, sT_18, sT_19, sT_20, sT_21, sT_22, sT_23, sR_15_1, sR_15_2, sR_15_3, sR_15_4, sR_15_5, sR_15_6, sR_15_7, sR_15_8, sT_24, sT_25, sT_26, sT_27, sT_28, sT_29, sR_24_1, sR_24_2, sR_24_3, sR_24_4, sR_24_5, sT_71, sT_72, sR_71_0, sR_71_1, sR_71_2, sR_71_3, sR_71_4, sT_73, sT_74, sT_75, sR_73_0, sR_73_1, sR_73_2, sR_73_3, sR_73_4, sR_73_5, sT_84, sT_85, sT_86, sT_87, sR_84_0, sR_84_1, sR_84_2, sR_84_3, sR_84_4, sR_84_5, sT_88, sT_89, sR_88_0, sT_90, sT_91, sR_90_0, t77, r1, c24]
theorem rkS7_g (A : AS) (S : Nat) : rkS7 A S = nfo (fun p m => m + gF A S p) 7 0 := rfl
theorem smF_le {g : Nat → Nat} (hg : ∀ p, g p < 16) : ∀ n, nfo (fun p m => m + g p) n 0 ≤ 15 * n := by
  intro n
  induction n with
  | zero => exact Nat.le_refl _
  | succ n ih =>
    have e : nfo (fun p m => m + g p) (n + 1) 0 = nfo (fun p m => m + g p) n 0 + g n := rfl
    have := hg n
    omega
theorem rkS7_le {A : AS} (w : WF A) (S : Nat) : rkS7 A S ≤ 105 := smF_le (fun p => gF_lt w S p) 7
theorem e_St_sumOf {A : AS} {h : jHp} (w : WF A) (S : Nat) : f_St_sumOf [.long (Int64.ofNat (rkN A S))] h = some (some (.int (nI (rkS7 A S))), h) := by
  have hlt := rkN_lt w S
  have hL := loop_n (lb := 1) (lc := 2) (c := lc_St_sumOf_1) (b := lb_St_sumOf_1) (u := lu_St_sumOf_1) 7 (fun i (m : Nat) => (([.long (Int64.ofNat (rkN A S)), .null, .int (nI m), .int (nI i)], h) : jS)) (fun p m => m + gF A S p) (fun _ _ => True)
    (fun i m hi _ => by
      have hu := jJ_ushr (a := rkN A S) (k := 5 * i) (by omega) (by omega)
      have h2 := jJ_l2i (rkN A S / 2 ^ (5 * i))
      have ha : nI (rkN A S / 2 ^ (5 * i)) &&& nI 15 = nI (gF A S i) := by
        rw [n_and]
        congr 1
        rw [rkN_fN]
        exact fN_fld (fun p => gF_lt w S p) hi
      have hmul : nI 5 * nI i = nI (5 * i) := pk_mul _ _
      refine ⟨trivial, ?_⟩
      generalize Int64.ofNat (rkN A S / 2 ^ (5 * i)) = J' at *
      generalize rkN A S / 2 ^ (5 * i) = Z at *
      generalize Int64.ofNat (rkN A S) = J at *
      generalize gF A S i = G at *
      simp (disch := first | assumption | omega) [lstp, lc_St_sumOf_1, lb_St_sumOf_1, lu_St_sumOf_1, j_meth, j_out, j_rok, j_pad, lg_sl, s_seq_w, isN_inl, isN_inr, s_if, jb, x_c, x_iloc, x_aloc, x_lloc, x_bin, x_un, o_add, o_sub, o_mul, o_and, o_or, o_xor, o_shl, o_shr, o_ushr, o_max, o_min, o_i2b, o_i2c, o_i2l, o_l2i, x_fld, j_fget, x_idx, j_aget, x_len, j_alen, x_ofb, x_ite, xs_nil, xs_cons, x_callv, x_calls, s_callv, s_calls, j_recv, j_ret, j_retv, b_cmp, b_and, b_or, b_not, b_ofi, b_ite, b_true, s_skip, s_set, j_ty, j_lset, j_kill, s_inc, s_fput, j_fput, s_fop, s_aput, j_aput, j_nar, s_aop, s_ret, s_retv, s_go, s_pop, x_linc, x_finc, Value.category, if_icmp.holds, List.flatMap_cons, List.flatMap_nil, List.length_cons, List.length_append, List.length_nil, List.set_cons_succ, List.set_cons_zero, List.getElem?_cons_succ, List.getElem?_cons_zero, List.replicate, ite_and', ite_or', ite_int', nI_leI, nI_ltI, nI_eq, nI_add, nI_1, pk_mul, nI_clamp, n_in', nI_pos', nI_pos, n_m1e, n_01, n_10, sT_1, sR_1_0, sR_1_1, sR_1_2, sR_1_3, sR_1_4, sR_1_5, sR_1_6, sR_1_7, sR_1_8, sR_1_9, sT_2, sT_3, sT_4, sT_5, sT_6, sT_7, sT_8, sT_9, sT_10, sT_11, sT_12, sT_13, sT_14, sR_2_1, sR_2_2, sR_2_3, sR_2_4, sR_2_5, sR_2_6, sR_2_7, sR_2_8, sR_2_9, sR_2_10, sR_2_11, sR_2_12, sT_15, sT_16, sT_17, sT_18, sT_19, sT_20, sT_21, sT_22, sT_23, sR_15_1, sR_15_2, sR_15_3, sR_15_4, sR_15_5, sR_15_6, sR_15_7, sR_15_8, sT_24, sT_25, sT_26, sT_27, sT_28, sT_29, sR_24_1, sR_24_2, sR_24_3, sR_24_4, sR_24_5, sT_71, sT_72, sR_71_0, sR_71_1, sR_71_2, sR_71_3, sR_71_4, sT_73, sT_74, sT_75, sR_73_0, sR_73_1, sR_73_2, sR_73_3, sR_73_4, sR_73_5, sT_84, sT_85, sT_86, sT_87, sR_84_0, sR_84_1, sR_84_2, sR_84_3, sR_84_4, sR_84_5, sT_88, sT_89, sR_88_0, sT_90, sT_91, sR_90_0, o_lushr, hi, hmul, hu, h2, ha])
    (fun m _ => by
      generalize Int64.ofNat (rkN A S) = J at *
      simp (disch := first | assumption | omega) [lstp, lc_St_sumOf_1, lb_St_sumOf_1, lu_St_sumOf_1, j_meth, j_out, j_rok, j_pad, lg_sl, s_seq_w, isN_inl, isN_inr, s_if, jb, x_c, x_iloc, x_aloc, x_lloc, x_bin, x_un, o_add, o_sub, o_mul, o_and, o_or, o_xor, o_shl, o_shr, o_ushr, o_max, o_min, o_i2b, o_i2c, o_i2l, o_l2i, x_fld, j_fget, x_idx, j_aget, x_len, j_alen, x_ofb, x_ite, xs_nil, xs_cons, x_callv, x_calls, s_callv, s_calls, j_recv, j_ret, j_retv, b_cmp, b_and, b_or, b_not, b_ofi, b_ite, b_true, s_skip, s_set, j_ty, j_lset, j_kill, s_inc, s_fput, j_fput, s_fop, s_aput, j_aput, j_nar, s_aop, s_ret, s_retv, s_go, s_pop, x_linc, x_finc, Value.category, if_icmp.holds, List.flatMap_cons, List.flatMap_nil, List.length_cons, List.length_append, List.length_nil, List.set_cons_succ, List.set_cons_zero, List.getElem?_cons_succ, List.getElem?_cons_zero, List.replicate, ite_and', ite_or', ite_int', nI_leI, nI_ltI, nI_eq, nI_add, nI_1, pk_mul, nI_clamp, n_in', nI_pos', nI_pos, n_m1e, n_01, n_10, sT_1, sR_1_0, sR_1_1, sR_1_2, sR_1_3, sR_1_4, sR_1_5, sR_1_6, sR_1_7, sR_1_8, sR_1_9, sT_2, sT_3, sT_4, sT_5, sT_6, sT_7, sT_8, sT_9, sT_10, sT_11, sT_12, sT_13, sT_14, sR_2_1, sR_2_2, sR_2_3, sR_2_4, sR_2_5, sR_2_6, sR_2_7, sR_2_8, sR_2_9, sR_2_10, sR_2_11, sR_2_12, sT_15, sT_16, sT_17, sT_18, sT_19, sT_20, sT_21, sT_22, sT_23, sR_15_1, sR_15_2, sR_15_3, sR_15_4, sR_15_5, sR_15_6, sR_15_7, sR_15_8, sT_24, sT_25, sT_26, sT_27, sT_28, sT_29, sR_24_1, sR_24_2, sR_24_3, sR_24_4, sR_24_5, sT_71, sT_72, sR_71_0, sR_71_1, sR_71_2, sR_71_3, sR_71_4, sT_73, sT_74, sT_75, sR_73_0, sR_73_1, sR_73_2, sR_73_3, sR_73_4, sR_73_5, sT_84, sT_85, sT_86, sT_87, sR_84_0, sR_84_1, sR_84_2, sR_84_3, sR_84_4, sR_84_5, sT_88, sT_89, sR_88_0, sT_90, sT_91, sR_90_0]) 0 trivial
  rw [← rkS7_g] at hL
  simp only [nI_0] at hL
  generalize Int64.ofNat (rkN A S) = J at *
  generalize rkS7 A S = R at *
  simp (disch := first | assumption | omega) [f_St_sumOf, body_St_sumOf, j_meth, j_out, j_rok, j_pad, lg_sl, s_seq_w, isN_inl, isN_inr, s_if, jb, x_c, x_iloc, x_aloc, x_lloc, x_bin, x_un, o_add, o_sub, o_mul, o_and, o_or, o_xor, o_shl, o_shr, o_ushr, o_max, o_min, o_i2b, o_i2c, o_i2l, o_l2i, x_fld, j_fget, x_idx, j_aget, x_len, j_alen, x_ofb, x_ite, xs_nil, xs_cons, x_callv, x_calls, s_callv, s_calls, j_recv, j_ret, j_retv, b_cmp, b_and, b_or, b_not, b_ofi, b_ite, b_true, s_skip, s_set, j_ty, j_lset, j_kill, s_inc, s_fput, j_fput, s_fop, s_aput, j_aput, j_nar, s_aop, s_ret, s_retv, s_go, s_pop, x_linc, x_finc, Value.category, if_icmp.holds, List.flatMap_cons, List.flatMap_nil, List.length_cons, List.length_append, List.length_nil, List.set_cons_succ, List.set_cons_zero, List.getElem?_cons_succ, List.getElem?_cons_zero, List.replicate, ite_and', ite_or', ite_int', nI_leI, nI_ltI, nI_eq, nI_add, nI_1, pk_mul, nI_clamp, n_in', nI_pos', nI_pos, n_m1e, n_01, n_10, sT_1, sR_1_0, sR_1_1, sR_1_2, sR_1_3, sR_1_4, sR_1_5, sR_1_6, sR_1_7, sR_1_8, sR_1_9, sT_2, sT_3, sT_4, sT_5, sT_6, sT_7, sT_8, sT_9, sT_10, sT_11, sT_12, sT_13, sT_14, sR_2_1, sR_2_2, sR_2_3, sR_2_4, sR_2_5, sR_2_6, sR_2_7, sR_2_8, sR_2_9, sR_2_10, sR_2_11, sR_2_12, sT_15, sT_16, sT_17, sT_18, sT_19, sT_20, sT_21, sT_22, sT_23, sR_15_1, sR_15_2, sR_15_3, sR_15_4, sR_15_5, sR_15_6, sR_15_7, sR_15_8, sT_24, sT_25, sT_26, sT_27, sT_28, sT_29, sR_24_1, sR_24_2, sR_24_3, sR_24_4, sR_24_5, sT_71, sT_72, sR_71_0, sR_71_1, sR_71_2, sR_71_3, sR_71_4, sT_73, sT_74, sT_75, sR_73_0, sR_73_1, sR_73_2, sR_73_3, sR_73_4, sR_73_5, sT_84, sT_85, sT_86, sT_87, sR_84_0, sR_84_1, sR_84_2, sR_84_3, sR_84_4, sR_84_5, sT_88, sT_89, sR_88_0, sT_90, sT_91, sR_90_0, nI_0, hL]
theorem beyond_long {A : AS} (w : WF A) {a b : Nat} (ha : FRk A a) (hb : FRk A b) : (¬ Int64.ofNat (rkN A a) = Int64.ofNat (rkN A b) ∧ (Int64.ofNat (rkN A b) ||| 17734058512) - Int64.ofNat (rkN A a) &&& 17734058512 = 17734058512) ↔ sBet A a b = true := by
  have l1 := rkN_lt w a
  have l2 := rkN_lt w b
  have hl := lent_ok (a := gF A a) (b := gF A b) (fun p => gF_lt w a p) (fun p => gF_lt w b p)
  rw [← rkN_fN, ← rkN_fN] at hl
  have hll : rkN A b ||| 17734058512 < 2 ^ 35 := Nat.or_lt_two_pow l2 (by decide)
  have e : (17734058512 : Int64) = Int64.ofNat 17734058512 := rfl
  have han : (rkN A b ||| 17734058512) - rkN A a &&& 17734058512 ≤ 17734058512 := Nat.and_le_right
  rw [e, jJ_or, jJ_sub hl.1 (by omega), jJ_and, jJ_eq (by omega) (by omega), jJ_eq (by omega) (by omega), hl.2, bet_fld w ha hb]
  exact And.comm
/-- where the sorted ones lie: their ranks -/
def RKa (A : AS) (l : List Nat) (σ : Nat → Nat) (ra rl : Nat) (h : jHp) : Prop := hR h 77 8 = ra ∧ ra ≠ 0 ∧ hT h ra = (5, rl) ∧ l.length ≤ rl ∧ rl < 2 ^ 30 ∧ ∀ i, i < l.length → hJ h ra i = Int64.ofNat (rkN A (l.getD (σ i) 0))
noncomputable def isb0 : jSt := (s_set 2 4 (x_idx 5 (x_fld 9 1 8 (x_aloc 0)) (x_ite (b_ofi (x_iloc 3)) (x_iloc 1) (x_iloc 2))))
noncomputable def isb1 : jSt := (s_set 2 6 (x_idx 5 (x_fld 9 1 8 (x_aloc 0)) (x_ite (b_ofi (x_iloc 3)) (x_iloc 2) (x_iloc 1))))
noncomputable def isb2 (L : Int64) : jSt := (s_ret (x_ofb (b_and (b_lcmp .ne (x_lloc 4) (x_lloc 6)) (b_lcmp .eq (x_bin o_land (x_bin o_lsub (x_bin o_lor (x_lloc 6) (x_c (.long L))) (x_lloc 4)) (x_c (.long L))) (x_c (.long L))))))
theorem isb_s : f_St_isBeyond = j_meth 2 8 (s_seq isb0 (s_seq isb1 (isb2 17734058512))) := rfl
def isbB (L I J : Int64) : Bool := decide (¬ I = J) && decide ((J ||| L) - I &&& L = L)
theorem isb2_ok (L : Int64) (a b c d : Value) (I J : Int64) (h : jHp) : isb2 L ([a, b, c, d, .long I, .null, .long J, .null], h) = some (.inr (some (.int (if isbB L I J then 1 else 0))), ([a, b, c, d, .long I, .null, .long J, .null], h)) := by
  have e1 := lg_ne I J
  have e2 := lg_eq ((J ||| L) - I &&& L) L
  unfold isbB
  rw [← e1, ← e2]
  simp only [isb2, s_ret, x_ofb, b_and, b_lcmp, x_lloc, x_c, jb, x_bin, o_land, o_lsub, o_lor, List.getElem?_cons_succ, List.getElem?_cons_zero]
  generalize ifCond.holds .ne (lg_cmp I J) = b1
  generalize ifCond.holds .eq (lg_cmp ((J ||| L) - I &&& L) L) = b2
  cases b1 <;> cases b2 <;> rfl
theorem isb_ok {h : jHp} (hs : Shape h) (L : Int64) {ra rl i j : Nat} (k1 : hR h 77 8 = ra) (k0 : ra ≠ 0) (k2 : hT h ra = (5, rl)) (hi : i < rl) (hj : j < rl) (hrl : rl < 2 ^ 30) (u : Bool) : j_meth 2 8 (s_seq isb0 (s_seq isb1 (isb2 L))) [.ref 77, .int (nI i), .int (nI j), .int (if u then 1 else 0)] h = some (some (.int (if (if u then isbB L (hJ h ra i) (hJ h ra j) else isbB L (hJ h ra j) (hJ h ra i)) then 1 else 0)), h) := by
  have t77 := sT_77 hs
  have ni : j_in (nI i) rl = true := n_in' (by omega) (by omega)
  have nj : j_in (nI j) rl = true := n_in' (by omega) (by omega)
  have h10 : ((1 : Int32) = 0) = False := by decide
  have ci : (nI i).toNatClampNeg = i := nI_clamp (by omega)
  have cj : (nI j).toNatClampNeg = j := nI_clamp (by omega)
  have e2 := isb2_ok L
  cases u with
  | true =>
    have e0 : isb0 ([.ref 77, .int (nI i), .int (nI j), .int 1, .null, .null, .null, .null], h) = some (.inl 0, ([.ref 77, .int (nI i), .int (nI j), .int 1, .long (hJ h ra i), .null, .null, .null], h)) := by
      simp (disch := first | assumption | omega) [isb0, j_meth, j_out, j_rok, j_pad, lg_sl, s_seq_w, isN_inl, isN_inr, s_if, jb, x_c, x_iloc, x_aloc, x_lloc, x_bin, x_un, o_add, o_sub, o_mul, o_and, o_or, o_xor, o_shl, o_shr, o_ushr, o_max, o_min, o_i2b, o_i2c, o_i2l, o_l2i, x_fld, j_fget, x_idx, j_aget, x_len, j_alen, x_ofb, x_ite, xs_nil, xs_cons, x_callv, x_calls, s_callv, s_calls, j_recv, j_ret, j_retv, b_cmp, b_and, b_or, b_not, b_ofi, b_ite, b_true, s_skip, s_set, j_ty, j_lset, j_kill, s_inc, s_fput, j_fput, s_fop, s_aput, j_aput, j_nar, s_aop, s_ret, s_retv, s_go, s_pop, x_linc, x_finc, Value.category, if_icmp.holds, List.flatMap_cons, List.flatMap_nil, List.length_cons, List.length_append, List.length_nil, List.set_cons_succ, List.set_cons_zero, List.getElem?_cons_succ, List.getElem?_cons_zero, List.replicate, ite_and', ite_or', ite_int', nI_leI, nI_ltI, nI_eq, nI_add, nI_1, pk_mul, nI_clamp, n_in', nI_pos', nI_pos, n_m1e, n_01, n_10, sT_1, sR_1_0, sR_1_1, sR_1_2, sR_1_3, sR_1_4, sR_1_5, sR_1_6, sR_1_7, sR_1_8, sR_1_9, sT_2, sT_3, sT_4, sT_5, sT_6, sT_7, sT_8, sT_9, sT_10, sT_11, sT_12, sT_13, sT_14, sR_2_1, sR_2_2, sR_2_3, sR_2_4, sR_2_5, sR_2_6, sR_2_7, sR_2_8, sR_2_9, sR_2_10, sR_2_11, sR_2_12, sT_15, sT_16, sT_17, sT_18, sT_19, sT_20, sT_21, sT_22, sT_23, sR_15_1, sR_15_2, sR_15_3, sR_15_4, sR_15_5, sR_15_6, sR_15_7, sR_15_8, sT_24, sT_25, sT_26, sT_27, sT_28, sT_29, sR_24_1, sR_24_2, sR_24_3, sR_24_4, sR_24_5, sT_71, sT_72, sR_71_0, sR_71_1, sR_71_2, sR_71_3, sR_71_4, sT_73, sT_74, sT_75, sR_73_0, sR_73_1, sR_73_2, sR_73_3, sR_73_4, sR_73_5, sT_84, sT_85, sT_86, sT_87, sR_84_0, sR_84_1, sR_84_2, sR_84_3, sR_84_4, sR_84_5, sT_88, sT_89, sR_88_0, sT_90, sT_91, sR_90_0, h10, t77, k1, k0, k2, ni, nj, ci, cj]
    have e1 : isb1 ([.ref 77, .int (nI i), .int (nI j), .int 1, .long (hJ h ra i), .null, .null, .null], h) = some (.inl 0, ([.ref 77, .int (nI i), .int (nI j), .int 1, .long (hJ h ra i), .null, .long (hJ h ra j), .null], h)) := by
      simp (disch := first | assumption | omega) [isb1, j_meth, j_out, j_rok, j_pad, lg_sl, s_seq_w, isN_inl, isN_inr, s_if, jb, x_c, x_iloc, x_aloc, x_lloc, x_bin, x_un, o_add, o_sub, o_mul, o_and, o_or, o_xor, o_shl, o_shr, o_ushr, o_max, o_min, o_i2b, o_i2c, o_i2l, o_l2i, x_fld, j_fget, x_idx, j_aget, x_len, j_alen, x_ofb, x_ite, xs_nil, xs_cons, x_callv, x_calls, s_callv, s_calls, j_recv, j_ret, j_retv, b_cmp, b_and, b_or, b_not, b_ofi, b_ite, b_true, s_skip, s_set, j_ty, j_lset, j_kill, s_inc, s_fput, j_fput, s_fop, s_aput, j_aput, j_nar, s_aop, s_ret, s_retv, s_go, s_pop, x_linc, x_finc, Value.category, if_icmp.holds, List.flatMap_cons, List.flatMap_nil, List.length_cons, List.length_append, List.length_nil, List.set_cons_succ, List.set_cons_zero, List.getElem?_cons_succ, List.getElem?_cons_zero, List.replicate, ite_and', ite_or', ite_int', nI_leI, nI_ltI, nI_eq, nI_add, nI_1, pk_mul, nI_clamp, n_in', nI_pos', nI_pos, n_m1e, n_01, n_10, sT_1, sR_1_0, sR_1_1, sR_1_2, sR_1_3, sR_1_4, sR_1_5, sR_1_6, sR_1_7, sR_1_8, sR_1_9, sT_2, sT_3, sT_4, sT_5, sT_6, sT_7, sT_8, sT_9, sT_10, sT_11, sT_12, sT_13, sT_14, sR_2_1, sR_2_2, sR_2_3, sR_2_4, sR_2_5, sR_2_6, sR_2_7, sR_2_8, sR_2_9, sR_2_10, sR_2_11, sR_2_12, sT_15, sT_16, sT_17, sT_18, sT_19, sT_20, sT_21, sT_22, sT_23, sR_15_1, sR_15_2, sR_15_3, sR_15_4, sR_15_5, sR_15_6, sR_15_7, sR_15_8, sT_24, sT_25, sT_26, sT_27, sT_28, sT_29, sR_24_1, sR_24_2, sR_24_3, sR_24_4, sR_24_5, sT_71, sT_72, sR_71_0, sR_71_1, sR_71_2, sR_71_3, sR_71_4, sT_73, sT_74, sT_75, sR_73_0, sR_73_1, sR_73_2, sR_73_3, sR_73_4, sR_73_5, sT_84, sT_85, sT_86, sT_87, sR_84_0, sR_84_1, sR_84_2, sR_84_3, sR_84_4, sR_84_5, sT_88, sT_89, sR_88_0, sT_90, sT_91, sR_90_0, h10, t77, k1, k0, k2, ni, nj, ci, cj]
    simp only [if_true]
    have e2 := e2 (.ref 77) (.int (nI i)) (.int (nI j)) (.int 1) (hJ h ra i) (hJ h ra j) h
    cases hB : isbB L (hJ h ra i) (hJ h ra j) with
    | true =>
      rw [hB] at e2
      simp only [if_true] at e2
      simp (disch := first | assumption | omega) [j_meth, j_out, j_rok, j_pad, lg_sl, s_seq_w, isN_inl, isN_inr, s_if, jb, x_c, x_iloc, x_aloc, x_lloc, x_bin, x_un, o_add, o_sub, o_mul, o_and, o_or, o_xor, o_shl, o_shr, o_ushr, o_max, o_min, o_i2b, o_i2c, o_i2l, o_l2i, x_fld, j_fget, x_idx, j_aget, x_len, j_alen, x_ofb, x_ite, xs_nil, xs_cons, x_callv, x_calls, s_callv, s_calls, j_recv, j_ret, j_retv, b_cmp, b_and, b_or, b_not, b_ofi, b_ite, b_true, s_skip, s_set, j_ty, j_lset, j_kill, s_inc, s_fput, j_fput, s_fop, s_aput, j_aput, j_nar, s_aop, s_ret, s_retv, s_go, s_pop, x_linc, x_finc, Value.category, if_icmp.holds, List.flatMap_cons, List.flatMap_nil, List.length_cons, List.length_append, List.length_nil, List.set_cons_succ, List.set_cons_zero, List.getElem?_cons_succ, List.getElem?_cons_zero, List.replicate, e0, e1, e2]
    | false =>
      rw [hB] at e2
      simp only [Bool.false_eq_true, if_false] at e2
      simp (disch := first | assumption | omega) [j_meth, j_out, j_rok, j_pad, lg_sl, s_seq_w, isN_inl, isN_inr, s_if, jb, x_c, x_iloc, x_aloc, x_lloc, x_bin, x_un, o_add, o_sub, o_mul, o_and, o_or, o_xor, o_shl, o_shr, o_ushr, o_max, o_min, o_i2b, o_i2c, o_i2l, o_l2i, x_fld, j_fget, x_idx, j_aget, x_len, j_alen, x_ofb, x_ite, xs_nil, xs_cons, x_callv, x_calls, s_callv, s_calls, j_recv, j_ret, j_retv, b_cmp, b_and, b_or, b_not, b_ofi, b_ite, b_true, s_skip, s_set, j_ty, j_lset, j_kill, s_inc, s_fput, j_fput, s_fop, s_aput, j_aput, j_nar, s_aop, s_ret, s_retv, s_go, s_pop, x_linc, x_finc, Value.category, if_icmp.holds, List.flatMap_cons, List.flatMap_nil, List.length_cons, List.length_append, List.length_nil, List.set_cons_succ, List.set_cons_zero, List.getElem?_cons_succ, List.getElem?_cons_zero, List.replicate, e0, e1, e2]
  | false =>
    have e0 : isb0 ([.ref 77, .int (nI i), .int (nI j), .int 0, .null, .null, .null, .null], h) = some (.inl 0, ([.ref 77, .int (nI i), .int (nI j), .int 0, .long (hJ h ra j), .null, .null, .null], h)) := by
      simp (disch := first | assumption | omega) [isb0, j_meth, j_out, j_rok, j_pad, lg_sl, s_seq_w, isN_inl, isN_inr, s_if, jb, x_c, x_iloc, x_aloc, x_lloc, x_bin, x_un, o_add, o_sub, o_mul, o_and, o_or, o_xor, o_shl, o_shr, o_ushr, o_max, o_min, o_i2b, o_i2c, o_i2l, o_l2i, x_fld, j_fget, x_idx, j_aget, x_len, j_alen, x_ofb, x_ite, xs_nil, xs_cons, x_callv, x_calls, s_callv, s_calls, j_recv, j_ret, j_retv, b_cmp, b_and, b_or, b_not, b_ofi, b_ite, b_true, s_skip, s_set, j_ty, j_lset, j_kill, s_inc, s_fput, j_fput, s_fop, s_aput, j_aput, j_nar, s_aop, s_ret, s_retv, s_go, s_pop, x_linc, x_finc, Value.category, if_icmp.holds, List.flatMap_cons, List.flatMap_nil, List.length_cons, List.length_append, List.length_nil, List.set_cons_succ, List.set_cons_zero, List.getElem?_cons_succ, List.getElem?_cons_zero, List.replicate, ite_and', ite_or', ite_int', nI_leI, nI_ltI, nI_eq, nI_add, nI_1, pk_mul, nI_clamp, n_in', nI_pos', nI_pos, n_m1e, n_01, n_10, sT_1, sR_1_0, sR_1_1, sR_1_2, sR_1_3, sR_1_4, sR_1_5, sR_1_6, sR_1_7, sR_1_8, sR_1_9, sT_2, sT_3, sT_4, sT_5, sT_6, sT_7, sT_8, sT_9, sT_10, sT_11, sT_12, sT_13, sT_14, sR_2_1, sR_2_2, sR_2_3, sR_2_4, sR_2_5, sR_2_6, sR_2_7, sR_2_8, sR_2_9, sR_2_10, sR_2_11, sR_2_12, sT_15, sT_16, sT_17, sT_18, sT_19, sT_20, sT_21, sT_22, sT_23, sR_15_1, sR_15_2, sR_15_3, sR_15_4, sR_15_5, sR_15_6, sR_15_7, sR_15_8, sT_24, sT_25, sT_26, sT_27, sT_28, sT_29, sR_24_1, sR_24_2, sR_24_3, sR_24_4, sR_24_5, sT_71, sT_72, sR_71_0, sR_71_1, sR_71_2, sR_71_3, sR_71_4, sT_73, sT_74, sT_75, sR_73_0, sR_73_1, sR_73_2, sR_73_3, sR_73_4, sR_73_5, sT_84, sT_85, sT_86, sT_87, sR_84_0, sR_84_1, sR_84_2, sR_84_3, sR_84_4, sR_84_5, sT_88, sT_89, sR_88_0, sT_90, sT_91, sR_90_0, h10, t77, k1, k0, k2, ni, nj, ci, cj]
    have e1 : isb1 ([.ref 77, .int (nI i), .int (nI j), .int 0, .long (hJ h ra j), .null, .null, .null], h) = some (.inl 0, ([.ref 77, .int (nI i), .int (nI j), .int 0, .long (hJ h ra j), .null, .long (hJ h ra i), .null], h)) := by
      simp (disch := first | assumption | omega) [isb1, j_meth, j_out, j_rok, j_pad, lg_sl, s_seq_w, isN_inl, isN_inr, s_if, jb, x_c, x_iloc, x_aloc, x_lloc, x_bin, x_un, o_add, o_sub, o_mul, o_and, o_or, o_xor, o_shl, o_shr, o_ushr, o_max, o_min, o_i2b, o_i2c, o_i2l, o_l2i, x_fld, j_fget, x_idx, j_aget, x_len, j_alen, x_ofb, x_ite, xs_nil, xs_cons, x_callv, x_calls, s_callv, s_calls, j_recv, j_ret, j_retv, b_cmp, b_and, b_or, b_not, b_ofi, b_ite, b_true, s_skip, s_set, j_ty, j_lset, j_kill, s_inc, s_fput, j_fput, s_fop, s_aput, j_aput, j_nar, s_aop, s_ret, s_retv, s_go, s_pop, x_linc, x_finc, Value.category, if_icmp.holds, List.flatMap_cons, List.flatMap_nil, List.length_cons, List.length_append, List.length_nil, List.set_cons_succ, List.set_cons_zero, List.getElem?_cons_succ, List.getElem?_cons_zero, List.replicate, ite_and', ite_or', ite_int', nI_leI, nI_ltI, nI_eq, nI_add, nI_1, pk_mul, nI_clamp, n_in', nI_pos', nI_pos, n_m1e, n_01, n_10, sT_1, sR_1_0, sR_1_1, sR_1_2, sR_1_3, sR_1_4, sR_1_5, sR_1_6, sR_1_7, sR_1_8, sR_1_9, sT_2, sT_3, sT_4, sT_5, sT_6, sT_7, sT_8, sT_9, sT_10, sT_11, sT_12, sT_13, sT_14, sR_2_1, sR_2_2, sR_2_3, sR_2_4, sR_2_5, sR_2_6, sR_2_7, sR_2_8, sR_2_9, sR_2_10, sR_2_11, sR_2_12, sT_15, sT_16, sT_17, sT_18, sT_19, sT_20, sT_21, sT_22, sT_23, sR_15_1, sR_15_2, sR_15_3, sR_15_4, sR_15_5, sR_15_6, sR_15_7, sR_15_8, sT_24, sT_25, sT_26, sT_27, sT_28, sT_29, sR_24_1, sR_24_2, sR_24_3, sR_24_4, sR_24_5, sT_71, sT_72, sR_71_0, sR_71_1, sR_71_2, sR_71_3, sR_71_4, sT_73, sT_74, sT_75, sR_73_0, sR_73_1, sR_73_2, sR_73_3, sR_73_4, sR_73_5, sT_84, sT_85, sT_86, sT_87, sR_84_0, sR_84_1, sR_84_2, sR_84_3, sR_84_4, sR_84_5, sT_88, sT_89, sR_88_0, sT_90, sT_91, sR_90_0, h10, t77, k1, k0, k2, ni, nj, ci, cj]
    simp only [Bool.false_eq_true, if_false]
    have e2 := e2 (.ref 77) (.int (nI i)) (.int (nI j)) (.int 0) (hJ h ra j) (hJ h ra i) h
    cases hB : isbB L (hJ h ra j) (hJ h ra i) with
    | true =>
      rw [hB] at e2
      simp only [if_true] at e2
      simp (disch := first | assumption | omega) [j_meth, j_out, j_rok, j_pad, lg_sl, s_seq_w, isN_inl, isN_inr, s_if, jb, x_c, x_iloc, x_aloc, x_lloc, x_bin, x_un, o_add, o_sub, o_mul, o_and, o_or, o_xor, o_shl, o_shr, o_ushr, o_max, o_min, o_i2b, o_i2c, o_i2l, o_l2i, x_fld, j_fget, x_idx, j_aget, x_len, j_alen, x_ofb, x_ite, xs_nil, xs_cons, x_callv, x_calls, s_callv, s_calls, j_recv, j_ret, j_retv, b_cmp, b_and, b_or, b_not, b_ofi, b_ite, b_true, s_skip, s_set, j_ty, j_lset, j_kill, s_inc, s_fput, j_fput, s_fop, s_aput, j_aput, j_nar, s_aop, s_ret, s_retv, s_go, s_pop, x_linc, x_finc, Value.category, if_icmp.holds, List.flatMap_cons, List.flatMap_nil, List.length_cons, List.length_append, List.length_nil, List.set_cons_succ, List.set_cons_zero, List.getElem?_cons_succ, List.getElem?_cons_zero, List.replicate, e0, e1, e2]
    | false =>
      rw [hB] at e2
      simp only [Bool.false_eq_true, if_false] at e2
      simp (disch := first | assumption | omega) [j_meth, j_out, j_rok, j_pad, lg_sl, s_seq_w, isN_inl, isN_inr, s_if, jb, x_c, x_iloc, x_aloc, x_lloc, x_bin, x_un, o_add, o_sub, o_mul, o_and, o_or, o_xor, o_shl, o_shr, o_ushr, o_max, o_min, o_i2b, o_i2c, o_i2l, o_l2i, x_fld, j_fget, x_idx, j_aget, x_len, j_alen, x_ofb, x_ite, xs_nil, xs_cons, x_callv, x_calls, s_callv, s_calls, j_recv, j_ret, j_retv, b_cmp, b_and, b_or, b_not, b_ofi, b_ite, b_true, s_skip, s_set, j_ty, j_lset, j_kill, s_inc, s_fput, j_fput, s_fop, s_aput, j_aput, j_nar, s_aop, s_ret, s_retv, s_go, s_pop, x_linc, x_finc, Value.category, if_icmp.holds, List.flatMap_cons, List.flatMap_nil, List.length_cons, List.length_append, List.length_nil, List.set_cons_succ, List.set_cons_zero, List.getElem?_cons_succ, List.getElem?_cons_zero, List.replicate, e0, e1, e2]
theorem isbB_ok {A : AS} (w : WF A) {a b : Nat} (ha : FRk A a) (hb : FRk A b) : isbB 17734058512 (Int64.ofNat (rkN A a)) (Int64.ofNat (rkN A b)) = sBet A a b := by
  rw [Bool.eq_iff_iff, ← beyond_long w ha hb]
  unfold isbB
  rw [Bool.and_eq_true, decide_eq_true_eq, decide_eq_true_eq]
theorem e_St_isBeyond {A : AS} {h : jHp} (hs : Shape h) (w : WF A) {l : List Nat} {σ : Nat → Nat} {ra rl : Nat} (k : RKa A l σ ra rl h) (hf : ∀ i, i < l.length → FRk A (l.getD (σ i) 0)) {i j : Nat} (hi : i < l.length) (hj : j < l.length) (u : Bool) : f_St_isBeyond [.ref 77, .int (nI i), .int (nI j), .int (if u then 1 else 0)] h = some (some (.int (if (if u then sBet A (l.getD (σ i) 0) (l.getD (σ j) 0) else sBet A (l.getD (σ j) 0) (l.getD (σ i) 0)) then 1 else 0)), h) := by
  obtain ⟨k1, k0, k2, k3, k4, k5⟩ := k
  rw [isb_s, isb_ok hs _ k1 k0 k2 (by omega) (by omega) k4 u, k5 i hi, k5 j hj, isbB_ok w (hf i hi) (hf j hj), isbB_ok w (hf j hj) (hf i hi)]
