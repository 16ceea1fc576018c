/-! ALLOWED, in the class -/
theorem reidx {A : AS} (w : WF A) {σ : Type} (f : Nat) (G : Nat → σ → σ) (s : σ) : ∀ n, n ≤ aNb A → nfo (fun b t => if aOf A b == f then G b t else t) n s = nfo (fun i t => G (bAt A f i) t) (cntN (fun b => aOf A b == f) n) s := by
  intro n
  induction n with
  | zero => intro _; rfl
  | succ n ih =>
    intro hn
    have h2 : cntN (fun b => aOf A b == f) (n + 1) = if aOf A n == f then cntN (fun b => aOf A b == f) n + 1 else cntN (fun b => aOf A b == f) n := rfl
    rw [h2]
    simp only [nfo]
    by_cases e : aOf A n = f
    · rw [if_pos (by simpa using e), if_pos (by simpa using e)]
      simp only [nfo]
      rw [ih (by omega)]
      have hb : bAt A f (cntN (fun b => aOf A b == f) n) = n := by
        have := bAt_idx w (b := n) (by omega)
        rw [e] at this
        have hx : sIdx A n = cntN (fun b => aOf A b == f) n := by unfold sIdx; rw [e]
        rw [hx] at this
        exact this
      rw [hb]
    · rw [if_neg (by simpa using e), if_neg (by simpa using e)]
      exact ih (by omega)
theorem pS_fold {A : AS} (w : WF A) {σ : Type} {f P : Nat} (hP : P < 256) (G : Nat → σ → σ) (s : σ) : nfo (fun b t => if (pSet A f P).testBit b then G b t else t) (aNb A) s = nfo (fun i t => if P.testBit i then G (bAt A f i) t else t) (nOf A f) s := by
  have h1 : nfo (fun b t => if (pSet A f P).testBit b then G b t else t) (aNb A) s = nfo (fun b t => if aOf A b == f then (if P.testBit (sIdx A b) then G b t else t) else t) (aNb A) s := by
    refine nfo_congr fun b hb t => ?_
    rw [pSet_bit w hP]
    by_cases e : aOf A b = f
    · simp [hb, e]
    · simp [e]
  rw [h1, reidx w f (fun b t => if P.testBit (sIdx A b) then G b t else t) s (aNb A) (Nat.le_refl _)]
  refine nfo_congr fun i hi t => ?_
  rw [(bAt_ok w hi).2.2]
def pplP (A : AS) (f P n : Nat) : Nat := nfo (fun i m => if P.testBit i then m ||| 2 ^ aPe A (bAt A f i) else m) n 0
def payP (A : AS) (f P n : Nat) : Nat := nfo (fun i m => if P.testBit i then m + aPa A (bAt A f i) else m) n 0
theorem ppl_pS {A : AS} (w : WF A) {f P : Nat} (hP : P < 256) : sPpl A (pSet A f P) = pplP A f P (nOf A f) := pS_fold w hP (fun b m => m ||| 2 ^ aPe A b) 0
theorem pay_pS {A : AS} (w : WF A) {f P : Nat} (hP : P < 256) : sPay A (pSet A f P) = payP A f P (nOf A f) := by
  rw [show payP A f P (nOf A f) = nfo (fun i m => if P.testBit i then m + aPa A (bAt A f i) else m) (nOf A f) 0 from rfl, ← pS_fold w hP (fun b m => m + aPa A b) 0]
  unfold sPay
  exact nfo_congr fun b _ t => by split <;> simp
theorem pop_pS {A : AS} (w : WF A) {f P : Nat} (hP : P < 2 ^ nOf A f) : popN 32 (pSet A f P) = popN 32 P := by
  have h8 := nOf_le w f
  have h20 := w.2.2.1.1
  have h256 : P < 256 := Nat.lt_of_lt_of_le hP (Nat.pow_le_pow_right (by decide) h8)
  have hlt : pSet A f P < 2 ^ aNb A := stM_lt A _
  rw [popN_cnt hlt (by omega), popN_cnt hP (by omega)]
  unfold cntN
  exact pS_fold w h256 (fun _ m => m + 1) 0
theorem pSet_0 {A : AS} (w : WF A) {f P : Nat} (hP : P < 2 ^ nOf A f) : pSet A f P = 0 ↔ P = 0 := by
  have h8 := nOf_le w f
  have h256 : P < 256 := Nat.lt_of_lt_of_le hP (Nat.pow_le_pow_right (by decide) h8)
  constructor
  · intro h
    have := prt_pSet w hP
    rw [h] at this
    have h0 : slM A 0 = 0 := nfo_const fun i _ => by simp
    rw [h0] at this
    rw [← this]; simp [prt]
  · rintro rfl
    apply Nat.eq_of_testBit_eq
    intro b
    rw [pSet_bit w (by decide)]
    simp
theorem n_max0 {a b : Nat} (ha : a < 2 ^ 29) (hb : b < 2 ^ 29) : (if nI 0 < nI a - nI b then nI a - nI b else nI 0) = nI (a - b) := by
  by_cases h : b ≤ a
  · rw [pk_sub h]
    by_cases h2 : a - b = 0
    · rw [h2]; simp
    · rw [if_pos ((nI_ltI (by omega) (by omega)).mpr (by omega))]
  · have h1 := pk_sub_toInt (a := a) (b := b) (by omega) (by omega)
    rw [if_neg]
    · congr 1; omega
    · rw [Int32.lt_iff_toInt_lt, h1, nI_0]
      simp only [Int32.toInt_zero]
      omega
theorem kpM_le {l : List (Nat × Nat)} (hl : ∀ q ∈ l, q.1 < 4 ∧ q.2 ≤ 9) (k : Nat) : kpM l k ≤ 9 := by
  rcases (kpM_g k l 0).2.2 with e | ⟨q, q1, -, q3⟩
  · have : kpM l k = 0 := e
    omega
  · have := (hl q q1).2
    have e : q.2 = kpM l k := q3
    omega
theorem kdM_lt {A : AS} (w : WF A) (k : Nat) : kdM A k < 2 ^ 32 := by
  have hn := w.1.1
  unfold kdM
  refine nfo_inv (fun _ m => m < 2 ^ 32) (aNp A) 0 (by decide) ?_ _ (Nat.le_refl _)
  intro i t hi ht
  split
  · exact Nat.or_lt_two_pow ht (Nat.pow_lt_pow_right (by decide) (by omega))
  · exact ht
theorem fst1_isN {p : Nat → Bool} {n : Nat} (hall : ∀ m, m < n → p m = false) : (fst1 p n).isNone = true := by
  rw [fst1_no hall]; rfl
theorem fst1_isS {p : Nat → Bool} {n i : Nat} (hi : i < n) (z : p i = true) (hall : ∀ m, m < i → p m = false) : (fst1 p n).isNone = false := by
  rw [fst1_of hi z hall]; rfl
def kPlP (A : AS) (l : List (Nat × Nat)) (who lim k : Nat) : Bool := decide (0 < kpM l k) && decide (lim - kpM l k < othM A who k)
theorem kPlc_def (A : AS) (l : List (Nat × Nat)) (who lim : Nat) : kPlc A l who lim = (fst1 (kPlP A l who lim) 4).isNone := rfl
theorem kPlP_def (A : AS) (l : List (Nat × Nat)) (who lim k : Nat) : (decide (0 < kpM l k) && decide (lim - kpM l k < othM A who k)) = kPlP A l who lim k := rfl
theorem e_D_keepsPlaces {A : AS} {h : jHp} (x : CX A h) {k a who lim : Nat} (hk : k < 4) (d : CD0 A k a h) (hw : who < 2 ^ 31) (hlim : lim < 2 ^ 29) : f_D_keepsPlaces [.ref (dA k), .int (nI who), .int (nI lim)] h = some (some (.int (if kPlc A (cKeeps (chD A k)) who lim then 1 else 0)), h) := by
  obtain ⟨hs, w, cb, cp⟩ := x
  obtain ⟨t1, r1, r2, -⟩ := DSh_of hs hk
  obtain ⟨-, d3, dca, dc⟩ := d
  obtain ⟨u0, -, -, u6, -, -, -, -, v6, -⟩ := CA_of hs dca
  have hC := chD_ok w k
  have q6 := dc.2.2.2.2.2.1
  have c17 := cp.2.2.1
  have ha0 : a ≠ 0 := by rcases dca with rfl | rfl | rfl | rfl | rfl <;> decide
  have ha3 : a + 3 ≠ 0 := by omega
  have hl := hC.2.2.2.2.2.1
  generalize chD A k = C at *
  generalize dA k = D at *
  have facts : ∀ i, i < 4 → ∃ v, v = othM A who i ∧ v ≤ 32 ∧ f_J_bitCount [.int (nI (who &&& (kdM A i ^^^ 4294967295)))] h = some (some (.int (nI v)), h) := fun i hi => ⟨_, rfl, popN_le 32 _, e_J_bitCount h (by
    have : who &&& (kdM A i ^^^ 4294967295) < 2 ^ 31 := n_and_lt hw
    omega)⟩
  have step : ∀ i v4, i < 4 → lstp 1 2 lc_D_keepsPlaces_1 lb_D_keepsPlaces_1 lu_D_keepsPlaces_1 ([.ref D, .int (nI who), .int (nI lim), .int (nI i), v4], h) = some (if (decide (0 < kpM (cKeeps C) i) && decide (lim - kpM (cKeeps C) i < othM A who i)) = true then .inr (.inr (some (.int (nI 0))), ([.ref D, .int (nI who), .int (nI lim), .int (nI i), .int (nI (othM A who i))], h)) else .inl ([.ref D, .int (nI who), .int (nI lim), .int (nI (i + 1)), .int (nI (othM A who i))], h)) := by
    intro i v4 hi
    have e6 := q6 i hi
    have e17 := c17 i hi
    obtain ⟨v, hv, hv32, eb⟩ := facts i hi
    rw [← hv]
    have hkp := kpM_le hl i
    have hm := n_max0 (a := lim) (b := kpM (cKeeps C) i) hlim (by omega)
    generalize kpM (cKeeps C) i = kp at *
    have h0 : ((0 : Int32) < nI kp) = (0 < kp) := by rw [← nI_0]; exact propext (nI_ltI (by omega) (by omega))
    by_cases z1 : 0 < kp
    · by_cases z2 : lim - kp < v
      · simp (disch := first | assumption | omega) [lstp, lc_D_keepsPlaces_1, lb_D_keepsPlaces_1, lu_D_keepsPlaces_1, j_meth, j_out, j_rok, j_pad, lg_sl, s_seq_w, isN_inl, isN_inr, s_if, jb, x_c, x_iloc, x_aloc, x_lloc, x_bin, x_un, o_add, o_sub, o_mul, o_and, o_or, o_xor, o_shl, o_shr, o_ushr, o_max, o_min, o_i2b, o_i2c, o_i2l, o_l2i, x_fld, j_fget, x_idx, j_aget, x_len, j_alen, x_ofb, x_ite, xs_nil, xs_cons, x_callv, x_calls, s_callv, s_calls, j_recv, j_ret, j_retv, b_cmp, b_and, b_or, b_not, b_ofi, b_ite, b_true, s_skip, s_set, j_ty, j_lset, j_kill, s_inc, s_fput, j_fput, s_fop, s_aput, j_aput, j_nar, s_aop, s_ret, s_retv, s_go, s_pop, x_linc, x_finc, Value.category, if_icmp.holds, List.flatMap_cons, List.flatMap_nil, List.length_cons, List.length_append, List.length_nil, List.set_cons_succ, List.set_cons_zero, List.getElem?_cons_succ, List.getElem?_cons_zero, List.replicate, ite_and', ite_or', ite_int', nI_leI, nI_ltI, nI_eq, nI_add, nI_1, pk_mul, nI_clamp, n_in', nI_pos', nI_pos, n_m1e, n_01, n_10, sT_1, sR_1_0, sR_1_1, sR_1_2, sR_1_3, sR_1_4, sR_1_5, sR_1_6, sR_1_7, sR_1_8, sR_1_9, sT_2, sT_3, sT_4, sT_5, sT_6, sT_7, sT_8, sT_9, sT_10, sT_11, sT_12, sT_13, sT_14, sR_2_1, sR_2_2, sR_2_3, sR_2_4, sR_2_5, sR_2_6, sR_2_7, sR_2_8, sR_2_9, sR_2_10, sR_2_11, sR_2_12, sT_15, sT_16, sT_17, sT_18, sT_19, sT_20, sT_21, sT_22, sT_23, sR_15_1, sR_15_2, sR_15_3, sR_15_4, sR_15_5, sR_15_6, sR_15_7, sR_15_8, sT_24, sT_25, sT_26, sT_27, sT_28, sT_29, sR_24_1, sR_24_2, sR_24_3, sR_24_4, sR_24_5, sT_71, sT_72, sR_71_0, sR_71_1, sR_71_2, sR_71_3, sR_71_4, sT_73, sT_74, sT_75, sR_73_0, sR_73_1, sR_73_2, sR_73_3, sR_73_4, sR_73_5, sT_84, sT_85, sT_86, sT_87, sR_84_0, sR_84_1, sR_84_2, sR_84_3, sR_84_4, sR_84_5, sT_88, sT_89, sR_88_0, sT_90, sT_91, sR_90_0, hi, t1, r2, e17, n_not, n_and, eb, d3, ha0, u0, u6, ha3, v6, e6, h0, z1, hm, z2]
      · simp (disch := first | assumption | omega) [lstp, lc_D_keepsPlaces_1, lb_D_keepsPlaces_1, lu_D_keepsPlaces_1, j_meth, j_out, j_rok, j_pad, lg_sl, s_seq_w, isN_inl, isN_inr, s_if, jb, x_c, x_iloc, x_aloc, x_lloc, x_bin, x_un, o_add, o_sub, o_mul, o_and, o_or, o_xor, o_shl, o_shr, o_ushr, o_max, o_min, o_i2b, o_i2c, o_i2l, o_l2i, x_fld, j_fget, x_idx, j_aget, x_len, j_alen, x_ofb, x_ite, xs_nil, xs_cons, x_callv, x_calls, s_callv, s_calls, j_recv, j_ret, j_retv, b_cmp, b_and, b_or, b_not, b_ofi, b_ite, b_true, s_skip, s_set, j_ty, j_lset, j_kill, s_inc, s_fput, j_fput, s_fop, s_aput, j_aput, j_nar, s_aop, s_ret, s_retv, s_go, s_pop, x_linc, x_finc, Value.category, if_icmp.holds, List.flatMap_cons, List.flatMap_nil, List.length_cons, List.length_append, List.length_nil, List.set_cons_succ, List.set_cons_zero, List.getElem?_cons_succ, List.getElem?_cons_zero, List.replicate, ite_and', ite_or', ite_int', nI_leI, nI_ltI, nI_eq, nI_add, nI_1, pk_mul, nI_clamp, n_in', nI_pos', nI_pos, n_m1e, n_01, n_10, sT_1, sR_1_0, sR_1_1, sR_1_2, sR_1_3, sR_1_4, sR_1_5, sR_1_6, sR_1_7, sR_1_8, sR_1_9, sT_2, sT_3, sT_4, sT_5, sT_6, sT_7, sT_8, sT_9, sT_10, sT_11, sT_12, sT_13, sT_14, sR_2_1, sR_2_2, sR_2_3, sR_2_4, sR_2_5, sR_2_6, sR_2_7, sR_2_8, sR_2_9, sR_2_10, sR_2_11, sR_2_12, sT_15, sT_16, sT_17, sT_18, sT_19, sT_20, sT_21, sT_22, sT_23, sR_15_1, sR_15_2, sR_15_3, sR_15_4, sR_15_5, sR_15_6, sR_15_7, sR_15_8, sT_24, sT_25, sT_26, sT_27, sT_28, sT_29, sR_24_1, sR_24_2, sR_24_3, sR_24_4, sR_24_5, sT_71, sT_72, sR_71_0, sR_71_1, sR_71_2, sR_71_3, sR_71_4, sT_73, sT_74, sT_75, sR_73_0, sR_73_1, sR_73_2, sR_73_3, sR_73_4, sR_73_5, sT_84, sT_85, sT_86, sT_87, sR_84_0, sR_84_1, sR_84_2, sR_84_3, sR_84_4, sR_84_5, sT_88, sT_89, sR_88_0, sT_90, sT_91, sR_90_0, hi, t1, r2, e17, n_not, n_and, eb, d3, ha0, u0, u6, ha3, v6, e6, h0, z1, hm, z2]
    · simp (disch := first | assumption | omega) [lstp, lc_D_keepsPlaces_1, lb_D_keepsPlaces_1, lu_D_keepsPlaces_1, j_meth, j_out, j_rok, j_pad, lg_sl, s_seq_w, isN_inl, isN_inr, s_if, jb, x_c, x_iloc, x_aloc, x_lloc, x_bin, x_un, o_add, o_sub, o_mul, o_and, o_or, o_xor, o_shl, o_shr, o_ushr, o_max, o_min, o_i2b, o_i2c, o_i2l, o_l2i, x_fld, j_fget, x_idx, j_aget, x_len, j_alen, x_ofb, x_ite, xs_nil, xs_cons, x_callv, x_calls, s_callv, s_calls, j_recv, j_ret, j_retv, b_cmp, b_and, b_or, b_not, b_ofi, b_ite, b_true, s_skip, s_set, j_ty, j_lset, j_kill, s_inc, s_fput, j_fput, s_fop, s_aput, j_aput, j_nar, s_aop, s_ret, s_retv, s_go, s_pop, x_linc, x_finc, Value.category, if_icmp.holds, List.flatMap_cons, List.flatMap_nil, List.length_cons, List.length_append, List.length_nil, List.set_cons_succ, List.set_cons_zero, List.getElem?_cons_succ, List.getElem?_cons_zero, List.replicate, ite_and', ite_or', ite_int', nI_leI, nI_ltI, nI_eq, nI_add, nI_1, pk_mul, nI_clamp, n_in', nI_pos', nI_pos, n_m1e, n_01, n_10, sT_1, sR_1_0, sR_1_1, sR_1_2, sR_1_3, sR_1_4, sR_1_5, sR_1_6, sR_1_7, sR_1_8, sR_1_9, sT_2, sT_3, sT_4, sT_5, sT_6, sT_7, sT_8, sT_9, sT_10, sT_11, sT_12, sT_13, sT_14, sR_2_1, sR_2_2, sR_2_3, sR_2_4, sR_2_5, sR_2_6, sR_2_7, sR_2_8, sR_2_9, sR_2_10, sR_2_11, sR_2_12, sT_15, sT_16, sT_17, sT_18, sT_19, sT_20, sT_21, sT_22, sT_23, sR_15_1, sR_15_2, sR_15_3, sR_15_4, sR_15_5, sR_15_6, sR_15_7, sR_15_8, sT_24, sT_25, sT_26, sT_27, sT_28, sT_29, sR_24_1, sR_24_2, sR_24_3, sR_24_4, sR_24_5, sT_71, sT_72, sR_71_0, sR_71_1, sR_71_2, sR_71_3, sR_71_4, sT_73, sT_74, sT_75, sR_73_0, sR_73_1, sR_73_2, sR_73_3, sR_73_4, sR_73_5, sT_84, sT_85, sT_86, sT_87, sR_84_0, sR_84_1, sR_84_2, sR_84_3, sR_84_4, sR_84_5, sT_88, sT_89, sR_88_0, sT_90, sT_91, sR_90_0, hi, t1, r2, e17, n_not, n_and, eb, d3, ha0, u0, u6, ha3, v6, e6, h0, z1]
  have hp : ∀ i, (decide (0 < kpM (cKeeps C) i) && decide (lim - kpM (cKeeps C) i < othM A who i)) = kPlP A (cKeeps C) who lim i := fun i => kPlP_def A _ who lim i
  simp only [hp] at step
  clear hp
  rw [kPlc_def]
  generalize kPlP A (cKeeps C) who lim = pp at *
  have hL := loop_wp (lb := 1) (lc := 2) (c := lc_D_keepsPlaces_1) (b := lb_D_keepsPlaces_1) (u := lu_D_keepsPlaces_1) 4
    (fun i st => ∃ v4, st = ([.ref D, .int (nI who), .int (nI lim), .int (nI i), v4], h) ∧ ∀ m, m < i → pp m = false)
    (fun r => ∃ L, (r = (.inr (some (.int (nI 0))), (L, h)) ∧ (fst1 pp 4).isNone = false) ∨ (r = (.inl 0, (L, h)) ∧ (fst1 pp 4).isNone = true))
    ?_ ?_ ([.ref D, .int (nI who), .int (nI lim), .int (nI 0), .null], h) ⟨_, rfl, fun m hm => by cases hm⟩
  · simp only [nI_0] at hL
    obtain ⟨r, e, L, ⟨rfl, hz⟩ | ⟨rfl, hz⟩⟩ := hL
    · rw [hz]; simp (disch := first | assumption | omega) [f_D_keepsPlaces, body_D_keepsPlaces, j_meth, j_out, j_rok, j_pad, lg_sl, s_seq_w, isN_inl, isN_inr, s_if, jb, x_c, x_iloc, x_aloc, x_lloc, x_bin, x_un, o_add, o_sub, o_mul, o_and, o_or, o_xor, o_shl, o_shr, o_ushr, o_max, o_min, o_i2b, o_i2c, o_i2l, o_l2i, x_fld, j_fget, x_idx, j_aget, x_len, j_alen, x_ofb, x_ite, xs_nil, xs_cons, x_callv, x_calls, s_callv, s_calls, j_recv, j_ret, j_retv, b_cmp, b_and, b_or, b_not, b_ofi, b_ite, b_true, s_skip, s_set, j_ty, j_lset, j_kill, s_inc, s_fput, j_fput, s_fop, s_aput, j_aput, j_nar, s_aop, s_ret, s_retv, s_go, s_pop, x_linc, x_finc, Value.category, if_icmp.holds, List.flatMap_cons, List.flatMap_nil, List.length_cons, List.length_append, List.length_nil, List.set_cons_succ, List.set_cons_zero, List.getElem?_cons_succ, List.getElem?_cons_zero, List.replicate, ite_and', ite_or', ite_int', nI_leI, nI_ltI, nI_eq, nI_add, nI_1, pk_mul, nI_clamp, n_in', nI_pos', nI_pos, n_m1e, n_01, n_10, sT_1, sR_1_0, sR_1_1, sR_1_2, sR_1_3, sR_1_4, sR_1_5, sR_1_6, sR_1_7, sR_1_8, sR_1_9, sT_2, sT_3, sT_4, sT_5, sT_6, sT_7, sT_8, sT_9, sT_10, sT_11, sT_12, sT_13, sT_14, sR_2_1, sR_2_2, sR_2_3, sR_2_4, sR_2_5, sR_2_6, sR_2_7, sR_2_8, sR_2_9, sR_2_10, sR_2_11, sR_2_12, sT_15, sT_16, sT_17, sT_18, sT_19, sT_20, sT_21, sT_22, sT_23, sR_15_1, sR_15_2, sR_15_3, sR_15_4, sR_15_5, sR_15_6, sR_15_7, sR_15_8, sT_24, sT_25, sT_26, sT_27, sT_28, sT_29, sR_24_1, sR_24_2, sR_24_3, sR_24_4, sR_24_5, sT_71, sT_72, sR_71_0, sR_71_1, sR_71_2, sR_71_3, sR_71_4, sT_73, sT_74, sT_75, sR_73_0, sR_73_1, sR_73_2, sR_73_3, sR_73_4, sR_73_5, sT_84, sT_85, sT_86, sT_87, sR_84_0, sR_84_1, sR_84_2, sR_84_3, sR_84_4, sR_84_5, sT_88, sT_89, sR_88_0, sT_90, sT_91, sR_90_0, nI_0, e]
    · rw [hz]; simp (disch := first | assumption | omega) [f_D_keepsPlaces, body_D_keepsPlaces, j_meth, j_out, j_rok, j_pad, lg_sl, s_seq_w, isN_inl, isN_inr, s_if, jb, x_c, x_iloc, x_aloc, x_lloc, x_bin, x_un, o_add, o_sub, o_mul, o_and, o_or, o_xor, o_shl, o_shr, o_ushr, o_max, o_min, o_i2b, o_i2c, o_i2l, o_l2i, x_fld, j_fget, x_idx, j_aget, x_len, j_alen, x_ofb, x_ite, xs_nil, xs_cons, x_callv, x_calls, s_callv, s_calls, j_recv, j_ret, j_retv, b_cmp, b_and, b_or, b_not, b_ofi, b_ite, b_true, s_skip, s_set, j_ty, j_lset, j_kill, s_inc, s_fput, j_fput, s_fop, s_aput, j_aput, j_nar, s_aop, s_ret, s_retv, s_go, s_pop, x_linc, x_finc, Value.category, if_icmp.holds, List.flatMap_cons, List.flatMap_nil, List.length_cons, List.length_append, List.length_nil, List.set_cons_succ, List.set_cons_zero, List.getElem?_cons_succ, List.getElem?_cons_zero, List.replicate, ite_and', ite_or', ite_int', nI_leI, nI_ltI, nI_eq, nI_add, nI_1, pk_mul, nI_clamp, n_in', nI_pos', nI_pos, n_m1e, n_01, n_10, sT_1, sR_1_0, sR_1_1, sR_1_2, sR_1_3, sR_1_4, sR_1_5, sR_1_6, sR_1_7, sR_1_8, sR_1_9, sT_2, sT_3, sT_4, sT_5, sT_6, sT_7, sT_8, sT_9, sT_10, sT_11, sT_12, sT_13, sT_14, sR_2_1, sR_2_2, sR_2_3, sR_2_4, sR_2_5, sR_2_6, sR_2_7, sR_2_8, sR_2_9, sR_2_10, sR_2_11, sR_2_12, sT_15, sT_16, sT_17, sT_18, sT_19, sT_20, sT_21, sT_22, sT_23, sR_15_1, sR_15_2, sR_15_3, sR_15_4, sR_15_5, sR_15_6, sR_15_7, sR_15_8, sT_24, sT_25, sT_26, sT_27, sT_28, sT_29, sR_24_1, sR_24_2, sR_24_3, sR_24_4, sR_24_5, sT_71, sT_72, sR_71_0, sR_71_1, sR_71_2, sR_71_3, sR_71_4, sT_73, sT_74, sT_75, sR_73_0, sR_73_1, sR_73_2, sR_73_3, sR_73_4, sR_73_5, sT_84, sT_85, sT_86, sT_87, sR_84_0, sR_84_1, sR_84_2, sR_84_3, sR_84_4, sR_84_5, sT_88, sT_89, sR_88_0, sT_90, sT_91, sR_90_0, nI_0, e, n_11]
  · rintro i st hi ⟨v4, rfl, hall⟩
    have st1 := step i v4 hi
    by_cases z : pp i = true
    · right
      rw [if_pos z] at st1
      exact ⟨_, st1, _, Or.inl ⟨rfl, fst1_isS hi z hall⟩⟩
    · left
      rw [if_neg z] at st1
      refine ⟨_, st1, _, rfl, fun m hm => ?_⟩
      by_cases e : m = i
      · rw [e]; simpa using z
      · exact hall m (by omega)
  · rintro st ⟨v4, rfl, hall⟩
    have h44 : ¬ nI 4 < nI 4 := by decide
    refine ⟨(.inl 0, ([.ref D, .int (nI who), .int (nI lim), .int (nI 4), v4], h)), ?_, _, Or.inr ⟨rfl, ?_⟩⟩
    · simp (disch := first | assumption | omega) [lstp, lc_D_keepsPlaces_1, lb_D_keepsPlaces_1, lu_D_keepsPlaces_1, j_meth, j_out, j_rok, j_pad, lg_sl, s_seq_w, isN_inl, isN_inr, s_if, jb, x_c, x_iloc, x_aloc, x_lloc, x_bin, x_un, o_add, o_sub, o_mul, o_and, o_or, o_xor, o_shl, o_shr, o_ushr, o_max, o_min, o_i2b, o_i2c, o_i2l, o_l2i, x_fld, j_fget, x_idx, j_aget, x_len, j_alen, x_ofb, x_ite, xs_nil, xs_cons, x_callv, x_calls, s_callv, s_calls, j_recv, j_ret, j_retv, b_cmp, b_and, b_or, b_not, b_ofi, b_ite, b_true, s_skip, s_set, j_ty, j_lset, j_kill, s_inc, s_fput, j_fput, s_fop, s_aput, j_aput, j_nar, s_aop, s_ret, s_retv, s_go, s_pop, x_linc, x_finc, Value.category, if_icmp.holds, List.flatMap_cons, List.flatMap_nil, List.length_cons, List.length_append, List.length_nil, List.set_cons_succ, List.set_cons_zero, List.getElem?_cons_succ, List.getElem?_cons_zero, List.replicate, ite_and', ite_or', ite_int', nI_leI, nI_ltI, nI_eq, nI_add, nI_1, pk_mul, nI_clamp, n_in', nI_pos', nI_pos, n_m1e, n_01, n_10, sT_1, sR_1_0, sR_1_1, sR_1_2, sR_1_3, sR_1_4, sR_1_5, sR_1_6, sR_1_7, sR_1_8, sR_1_9, sT_2, sT_3, sT_4, sT_5, sT_6, sT_7, sT_8, sT_9, sT_10, sT_11, sT_12, sT_13, sT_14, sR_2_1, sR_2_2, sR_2_3, sR_2_4, sR_2_5, sR_2_6, sR_2_7, sR_2_8, sR_2_9, sR_2_10, sR_2_11, sR_2_12, sT_15, sT_16, sT_17, sT_18, sT_19, sT_20, sT_21, sT_22, sT_23, sR_15_1, sR_15_2, sR_15_3, sR_15_4, sR_15_5, sR_15_6, sR_15_7, sR_15_8, sT_24, sT_25, sT_26, sT_27, sT_28, sT_29, sR_24_1, sR_24_2, sR_24_3, sR_24_4, sR_24_5, sT_71, sT_72, sR_71_0, sR_71_1, sR_71_2, sR_71_3, sR_71_4, sT_73, sT_74, sT_75, sR_73_0, sR_73_1, sR_73_2, sR_73_3, sR_73_4, sR_73_5, sT_84, sT_85, sT_86, sT_87, sR_84_0, sR_84_1, sR_84_2, sR_84_3, sR_84_4, sR_84_5, sT_88, sT_89, sR_88_0, sT_90, sT_91, sR_90_0, h44]
    · exact fst1_isN hall
