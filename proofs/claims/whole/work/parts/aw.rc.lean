/-! THE CLASS between calls -/
def isG (a : Nat) : Prop := a = 76 ∨ (78 ≤ a ∧ a ≤ 82) ∨ 142 ≤ a
/-- a PERSON's rank, or its COUPLE's, as ranks are compared -/
def rkF (A : AS) (S p : Nat) : Nat := match sCpl A p with
  | none => (sRnk A S p).getD 0
  | some c => if aC1 A c = p then (sRkc A S c).getD 0 else 0
def rkN (A : AS) (S : Nat) : Nat := nfo (fun p m => m + (if p < aNp A then rkF A S p else 0) * 2 ^ (5 * p)) 7 0
def rkS7 (A : AS) (S : Nat) : Nat := nfo (fun p m => m + if p < aNp A then rkF A S p else 0) 7 0
/-- the sorted ones -/
def SRT (A : AS) (l : List Nat) (ra so : Nat) (h : jHp) : Prop := ∃ σ : Nat → Nat, (∀ i, i < l.length → σ i < l.length ∧ hI h so i = nI (σ i) ∧ hJ h ra i = Int64.ofNat (rkN A (l.getD (σ i) 0))) ∧ (∀ i j, i < l.length → j < l.length → σ i = σ j → i = j) ∧ ∀ i j, i < l.length → j < l.length → i < j → rkS7 A (l.getD (σ i) 0) ≤ rkS7 A (l.getD (σ j) 0)
/-- where what grows lies -/
def CGr (fa fl sa sl ra rl so di qu co : Nat) (h : jHp) : Prop := (hR h 73 11 = fa ∧ hT h fa = (1, fl) ∧ hR h 77 6 = sa ∧ hT h sa = (1, sl) ∧ hR h 77 8 = ra ∧ hT h ra = (5, rl) ∧ hR h 77 9 = so ∧ hT h so = (1, rl) ∧ hR h 77 10 = di ∧ hT h di = (1, rl) ∧ hR h 77 11 = qu ∧ hT h qu = (1, rl) ∧ hR h 77 12 = co ∧ hT h co = (1, rl)) ∧ (isG fa ∧ isG sa ∧ isG ra ∧ isG so ∧ isG di ∧ isG qu ∧ isG co) ∧ (fa < hN h ∧ sa < hN h ∧ ra < hN h ∧ so < hN h ∧ di < hN h ∧ qu < hN h ∧ co < hN h) ∧ (fa ≠ so ∧ fa ≠ di ∧ fa ≠ qu ∧ fa ≠ co ∧ so ≠ di ∧ so ≠ qu ∧ so ≠ co ∧ di ≠ qu ∧ di ≠ co ∧ qu ≠ co) ∧ (∃ i, i ≤ 8 ∧ fl = 64 * 2 ^ i) ∧ ∃ j, j ≤ 8 ∧ rl = 64 * 2 ^ j
def CKn (A : AS) (fa fl sa ra rl so : Nat) (h : jHp) : Prop := hI h 77 4 = 0 ∨ (hI h 77 4 = 1 ∧ sa = fa ∧ hI h 77 7 = nI (sAllR A).length ∧ (sAllR A).length ≤ fl ∧ (∀ i, i < (sAllR A).length → hI h fa i = nI ((sAllR A).getD i 0)) ∧ (hI h 77 5 = 0 ∨ (hI h 77 5 = 1 ∧ (sAllR A).length ≤ rl ∧ SRT A (sAllR A) ra so h)))
def CSt (A : AS) (h : jHp) : Prop := ∃ fa fl sa sl ra rl so di qu co, CGr fa fl sa sl ra rl so di qu co h ∧ CKn A fa fl sa ra rl so h
def CTx (tx : List Nat) (h : jHp) : Prop := (tx.length ≤ 100 ∧ ∀ x ∈ tx, x < 256) ∧ hI h 88 1 = nI tx.length ∧ ∀ i, i < tx.length → hI h 89 i = nI (tx.getD i 0)
def CSp (ca : Nat → Nat) (h : jHp) : Prop := hR h 1 10 = ca 4 ∧ (∀ i, i < 5 → isCA (ca i)) ∧ ∀ i j, i < 5 → j < 5 → ca i = ca j → i = j
def RC (A : AS) (tx : List Nat) (rw : List Int32) (h : jHp) : Prop := MK A h ∧ (∃ ca bl, DK A ca bl h ∧ CSp ca h) ∧ hI h 1 11 = nI (aNo A) ∧ CTx tx h ∧ CRw rw h ∧ CSt A h
/-- what the rows that grow have cost, and will have -/
def pot (h : jHp) : Nat := 2 * (hT h (hR h 73 11)).2 + 10 * (hT h (hR h 77 8)).2
/-- what a call of the class leaves as it was -/
def FC (h h' : jHp) : Prop := (∀ a k, 98 ≤ a → a ≤ 141 → hI h' a k = hI h a k ∧ hJ h' a k = hJ h a k ∧ hR h' a k = hR h a k) ∧ (∀ a, a < hN h → hT h' a = hT h a) ∧ hN h ≤ hN h' ∧ (hS h ≤ hS h' ∧ hN h' + pot h ≤ hN h + pot h' ∧ hS h' + pot h ≤ hS h + pot h')
theorem FC_refl (h : jHp) : FC h h := ⟨fun _ _ _ _ => ⟨rfl, rfl, rfl⟩, fun _ _ => rfl, Nat.le_refl _, Nat.le_refl _, Nat.le_refl _, Nat.le_refl _⟩
theorem FC_trans {h h1 h2 : jHp} (a : FC h h1) (b : FC h1 h2) : FC h h2 := by
  obtain ⟨a1, a2, a3, a4, a5, a6⟩ := a
  obtain ⟨b1, b2, b3, b4, b5, b6⟩ := b
  refine ⟨fun x k h1 h2 => ?_, fun x hx => (b2 x (by omega)).trans (a2 x hx), Nat.le_trans a3 b3, Nat.le_trans a4 b4, by omega, by omega⟩
  obtain ⟨c1, c2, c3⟩ := a1 x k h1 h2
  obtain ⟨d1, d2, d3⟩ := b1 x k h1 h2
  exact ⟨d1.trans c1, d2.trans c2, d3.trans c3⟩
theorem FC_Fr {W : Nat → Nat → Prop} {h h' : jHp} (f : Fr W h h') (hW : ∀ a j, W a j → a ≤ 97 ∨ 142 ≤ a) : FC h h' := by
  obtain ⟨⟨a1, a2, a3, a4, a5⟩, a6⟩ := f
  have hp : pot h' = pot h := by unfold pot; rw [a1, a2]
  refine ⟨fun a k h1 h2 => ⟨a6 a k fun q => by have := hW a k q; omega, by rw [a3], by rw [a2]⟩, fun a _ => by rw [a1], by rw [a4]; exact Nat.le_refl _, by rw [a5]; exact Nat.le_refl _, by rw [hp, a4]; exact Nat.le_refl _, by rw [hp, a5]; exact Nat.le_refl _⟩
theorem CGr_fr {W : Nat → Nat → Prop} {fa fl sa sl ra rl so di qu co : Nat} {h h' : jHp} (g : CGr fa fl sa sl ra rl so di qu co h) (f : Fr W h h') : CGr fa fl sa sl ra rl so di qu co h' := by
  obtain ⟨⟨a1, a2, a3, a4, a5⟩, -⟩ := f
  unfold CGr
  rw [a1, a2, a4]
  exact g
theorem SRT_fr {A : AS} {l : List Nat} {W : Nat → Nat → Prop} {ra so : Nat} {h h' : jHp} (g : SRT A l ra so h) (f : Fr W h h') (hW : ∀ j, ¬ W so j) : SRT A l ra so h' := by
  obtain ⟨σ, g1, g2, g3⟩ := g
  refine ⟨σ, fun i hi => ?_, g2, g3⟩
  obtain ⟨c1, c2, c3⟩ := g1 i hi
  exact ⟨c1, by rw [Fr_I f (hW i)]; exact c2, by rw [f.1.2.2.1]; exact c3⟩
theorem CSt_fr {A : AS} {W : Nat → Nat → Prop} {h h' : jHp} (g : CSt A h) (f : Fr W h h') (hW : ∀ a j, W a j → ¬ isG a ∧ a ≠ 77) : CSt A h' := by
  obtain ⟨fa, fl, sa, sl, ra, rl, so, di, qu, co, g1, g2⟩ := g
  refine ⟨fa, fl, sa, sl, ra, rl, so, di, qu, co, CGr_fr g1 f, ?_⟩
  have e77 : ∀ j, hI h' 77 j = hI h 77 j := fun j => Fr_I f fun q => (hW _ _ q).2 rfl
  unfold CKn
  rw [e77, e77, e77]
  rcases g2 with q | ⟨q1, q2, q3, q4, q5, q6⟩
  · exact Or.inl q
  · refine Or.inr ⟨q1, q2, q3, q4, fun i hi => ?_, ?_⟩
    · rw [Fr_I f fun q => (hW _ _ q).1 g1.2.1.1]; exact q5 i hi
    · rcases q6 with q | ⟨z1, z2, z3⟩
      · exact Or.inl q
      · exact Or.inr ⟨z1, z2, SRT_fr z3 f fun j q => (hW _ _ q).1 g1.2.1.2.2.2.1⟩
theorem CSt_new {A B : AS} {W : Nat → Nat → Prop} {h h' : jHp} (g : CSt A h) (f : Fr W h h') (h0 : hI h' 77 4 = 0) : CSt B h' := by
  obtain ⟨fa, fl, sa, sl, ra, rl, so, di, qu, co, g1, g2⟩ := g
  exact ⟨fa, fl, sa, sl, ra, rl, so, di, qu, co, CGr_fr g1 f, Or.inl h0⟩
theorem CTx_fr {tx : List Nat} {W : Nat → Nat → Prop} {h h' : jHp} (g : CTx tx h) (f : Fr W h h') (hW : ∀ a j, W a j → a ≠ 88 ∧ a ≠ 89) : CTx tx h' := ⟨g.1, by rw [Fr_I f fun q => (hW _ _ q).1 rfl]; exact g.2.1, fun i hi => by rw [Fr_I f fun q => (hW _ _ q).2 rfl]; exact g.2.2 i hi⟩
/-- cells that calls may change which change nothing of the state, but for the Desks' tables and the ROW -/
def okW (a j : Nat) : Prop := Wds a j ∨ (72 ≤ a ∧ a ≤ 75) ∨ (84 ≤ a ∧ a ≤ 87) ∨ a = 90 ∨ a = 91
theorem Wds_lt {a j : Nat} (h : Wds a j) : 31 ≤ a ∧ a ≤ 70 := by
  obtain ⟨k, hk, q⟩ := h
  exact Wdk_lt hk q
theorem okW_cC {a j : Nat} (h : okW a j) : ¬ cC a j := by
  rcases h with q | q
  · exact Wds_cC q
  · unfold cC isCA
    rintro (z | ⟨c, q1, q2, q3⟩ | z) <;> omega
theorem okW_ne {a j : Nat} (h : okW a j) : ¬ isG a ∧ a ≠ 77 ∧ a ≠ 88 ∧ a ≠ 89 ∧ a ≠ 1 ∧ a ≤ 97 := by
  unfold isG
  rcases h with q | q
  · have := Wds_lt q
    omega
  · omega
theorem RC_mk {A : AS} {tx : List Nat} {rw rw' : List Int32} {ca bl bl' : Nat → Nat} {W : Nat → Nat → Prop} {h h' : jHp} (r : RC A tx rw h) (d0 : DK A ca bl h) (sp : CSp ca h) (f : Fr W h h') (hW : ∀ a j, W a j → okW a j) (d : DK A ca bl' h') (c : CRw rw' h') : RC A tx rw' h' ∧ FC h h' := by
  obtain ⟨r1, -, r3, r4, r5, r6⟩ := r
  refine ⟨⟨MK_fr r1 f fun a j q => okW_cC (hW a j q), ⟨ca, bl', d, ?_⟩, ?_, CTx_fr r4 f fun a j q => ⟨(okW_ne (hW a j q)).2.2.1, (okW_ne (hW a j q)).2.2.2.1⟩, c, CSt_fr r6 f fun a j q => ⟨(okW_ne (hW a j q)).1, (okW_ne (hW a j q)).2.1⟩⟩, FC_Fr f fun a j q => Or.inl (okW_ne (hW a j q)).2.2.2.2.2⟩
  · exact ⟨by rw [f.1.2.1]; exact sp.1, sp.2⟩
  · rw [Fr_I f fun q => (okW_ne (hW _ _ q)).2.2.2.2.1 rfl]; exact r3
theorem e_S_hasOffice {A : AS} {h : jHp} (hs : Shape h) (w : WF A) (c : hI h 1 11 = nI (aNo A)) (x : Int32) : f_S_hasOffice [.ref 1, .int x] h = some (some (.int (if j_in x (aNo A) then 1 else 0)), h) := by
  have hn := w.2.1
  rcases n_of x with ⟨k, hk, rfl⟩ | hx
  · rw [n_in hk]
    have h0 := nI_pos' hk
    by_cases q : k < aNo A
    · simp (disch := first | assumption | omega) [f_S_hasOffice, body_S_hasOffice, j_meth, j_out, j_rok, j_pad, lg_sl, s_seq_w, isN_inl, isN_inr, s_if, jb, x_c, x_iloc, x_aloc, x_lloc, x_bin, x_un, o_add, o_sub, o_mul, o_and, o_or, o_xor, o_shl, o_shr, o_ushr, o_max, o_min, o_i2b, o_i2c, o_i2l, o_l2i, x_fld, j_fget, x_idx, j_aget, x_len, j_alen, x_ofb, x_ite, xs_nil, xs_cons, x_callv, x_calls, s_callv, s_calls, j_recv, j_ret, j_retv, b_cmp, b_and, b_or, b_not, b_ofi, b_ite, b_true, s_skip, s_set, j_ty, j_lset, j_kill, s_inc, s_fput, j_fput, s_fop, s_aput, j_aput, j_nar, s_aop, s_ret, s_retv, s_go, s_pop, x_linc, x_finc, Value.category, if_icmp.holds, List.flatMap_cons, List.flatMap_nil, List.length_cons, List.length_append, List.length_nil, List.set_cons_succ, List.set_cons_zero, List.getElem?_cons_succ, List.getElem?_cons_zero, List.replicate, ite_and', ite_or', ite_int', nI_leI, nI_ltI, nI_eq, nI_add, nI_1, pk_mul, nI_clamp, n_in', nI_pos', nI_pos, n_m1e, n_01, n_10, sT_1, sR_1_0, sR_1_1, sR_1_2, sR_1_3, sR_1_4, sR_1_5, sR_1_6, sR_1_7, sR_1_8, sR_1_9, sT_2, sT_3, sT_4, sT_5, sT_6, sT_7, sT_8, sT_9, sT_10, sT_11, sT_12, sT_13, sT_14, sR_2_1, sR_2_2, sR_2_3, sR_2_4, sR_2_5, sR_2_6, sR_2_7, sR_2_8, sR_2_9, sR_2_10, sR_2_11, sR_2_12, sT_15, sT_16, sT_17, sT_18, sT_19, sT_20, sT_21, sT_22, sT_23, sR_15_1, sR_15_2, sR_15_3, sR_15_4, sR_15_5, sR_15_6, sR_15_7, sR_15_8, sT_24, sT_25, sT_26, sT_27, sT_28, sT_29, sR_24_1, sR_24_2, sR_24_3, sR_24_4, sR_24_5, sT_71, sT_72, sR_71_0, sR_71_1, sR_71_2, sR_71_3, sR_71_4, sT_73, sT_74, sT_75, sR_73_0, sR_73_1, sR_73_2, sR_73_3, sR_73_4, sR_73_5, sT_84, sT_85, sT_86, sT_87, sR_84_0, sR_84_1, sR_84_2, sR_84_3, sR_84_4, sR_84_5, sT_88, sT_89, sR_88_0, sT_90, sT_91, sR_90_0, h0, c, q]
    · simp (disch := first | assumption | omega) [f_S_hasOffice, body_S_hasOffice, j_meth, j_out, j_rok, j_pad, lg_sl, s_seq_w, isN_inl, isN_inr, s_if, jb, x_c, x_iloc, x_aloc, x_lloc, x_bin, x_un, o_add, o_sub, o_mul, o_and, o_or, o_xor, o_shl, o_shr, o_ushr, o_max, o_min, o_i2b, o_i2c, o_i2l, o_l2i, x_fld, j_fget, x_idx, j_aget, x_len, j_alen, x_ofb, x_ite, xs_nil, xs_cons, x_callv, x_calls, s_callv, s_calls, j_recv, j_ret, j_retv, b_cmp, b_and, b_or, b_not, b_ofi, b_ite, b_true, s_skip, s_set, j_ty, j_lset, j_kill, s_inc, s_fput, j_fput, s_fop, s_aput, j_aput, j_nar, s_aop, s_ret, s_retv, s_go, s_pop, x_linc, x_finc, Value.category, if_icmp.holds, List.flatMap_cons, List.flatMap_nil, List.length_cons, List.length_append, List.length_nil, List.set_cons_succ, List.set_cons_zero, List.getElem?_cons_succ, List.getElem?_cons_zero, List.replicate, ite_and', ite_or', ite_int', nI_leI, nI_ltI, nI_eq, nI_add, nI_1, pk_mul, nI_clamp, n_in', nI_pos', nI_pos, n_m1e, n_01, n_10, sT_1, sR_1_0, sR_1_1, sR_1_2, sR_1_3, sR_1_4, sR_1_5, sR_1_6, sR_1_7, sR_1_8, sR_1_9, sT_2, sT_3, sT_4, sT_5, sT_6, sT_7, sT_8, sT_9, sT_10, sT_11, sT_12, sT_13, sT_14, sR_2_1, sR_2_2, sR_2_3, sR_2_4, sR_2_5, sR_2_6, sR_2_7, sR_2_8, sR_2_9, sR_2_10, sR_2_11, sR_2_12, sT_15, sT_16, sT_17, sT_18, sT_19, sT_20, sT_21, sT_22, sT_23, sR_15_1, sR_15_2, sR_15_3, sR_15_4, sR_15_5, sR_15_6, sR_15_7, sR_15_8, sT_24, sT_25, sT_26, sT_27, sT_28, sT_29, sR_24_1, sR_24_2, sR_24_3, sR_24_4, sR_24_5, sT_71, sT_72, sR_71_0, sR_71_1, sR_71_2, sR_71_3, sR_71_4, sT_73, sT_74, sT_75, sR_73_0, sR_73_1, sR_73_2, sR_73_3, sR_73_4, sR_73_5, sT_84, sT_85, sT_86, sT_87, sR_84_0, sR_84_1, sR_84_2, sR_84_3, sR_84_4, sR_84_5, sT_88, sT_89, sR_88_0, sT_90, sT_91, sR_90_0, h0, c, q]
  · have h0 : ¬ 0 ≤ x := Int32.not_le.mpr hx
    have hj : j_in x (aNo A) = false := by simp [j_in, h0]
    rw [hj]
    simp (disch := first | assumption | omega) [f_S_hasOffice, body_S_hasOffice, j_meth, j_out, j_rok, j_pad, lg_sl, s_seq_w, isN_inl, isN_inr, s_if, jb, x_c, x_iloc, x_aloc, x_lloc, x_bin, x_un, o_add, o_sub, o_mul, o_and, o_or, o_xor, o_shl, o_shr, o_ushr, o_max, o_min, o_i2b, o_i2c, o_i2l, o_l2i, x_fld, j_fget, x_idx, j_aget, x_len, j_alen, x_ofb, x_ite, xs_nil, xs_cons, x_callv, x_calls, s_callv, s_calls, j_recv, j_ret, j_retv, b_cmp, b_and, b_or, b_not, b_ofi, b_ite, b_true, s_skip, s_set, j_ty, j_lset, j_kill, s_inc, s_fput, j_fput, s_fop, s_aput, j_aput, j_nar, s_aop, s_ret, s_retv, s_go, s_pop, x_linc, x_finc, Value.category, if_icmp.holds, List.flatMap_cons, List.flatMap_nil, List.length_cons, List.length_append, List.length_nil, List.set_cons_succ, List.set_cons_zero, List.getElem?_cons_succ, List.getElem?_cons_zero, List.replicate, ite_and', ite_or', ite_int', nI_leI, nI_ltI, nI_eq, nI_add, nI_1, pk_mul, nI_clamp, n_in', nI_pos', nI_pos, n_m1e, n_01, n_10, sT_1, sR_1_0, sR_1_1, sR_1_2, sR_1_3, sR_1_4, sR_1_5, sR_1_6, sR_1_7, sR_1_8, sR_1_9, sT_2, sT_3, sT_4, sT_5, sT_6, sT_7, sT_8, sT_9, sT_10, sT_11, sT_12, sT_13, sT_14, sR_2_1, sR_2_2, sR_2_3, sR_2_4, sR_2_5, sR_2_6, sR_2_7, sR_2_8, sR_2_9, sR_2_10, sR_2_11, sR_2_12, sT_15, sT_16, sT_17, sT_18, sT_19, sT_20, sT_21, sT_22, sT_23, sR_15_1, sR_15_2, sR_15_3, sR_15_4, sR_15_5, sR_15_6, sR_15_7, sR_15_8, sT_24, sT_25, sT_26, sT_27, sT_28, sT_29, sR_24_1, sR_24_2, sR_24_3, sR_24_4, sR_24_5, sT_71, sT_72, sR_71_0, sR_71_1, sR_71_2, sR_71_3, sR_71_4, sT_73, sT_74, sT_75, sR_73_0, sR_73_1, sR_73_2, sR_73_3, sR_73_4, sR_73_5, sT_84, sT_85, sT_86, sT_87, sR_84_0, sR_84_1, sR_84_2, sR_84_3, sR_84_4, sR_84_5, sT_88, sT_89, sR_88_0, sT_90, sT_91, sR_90_0, h0, hx]
theorem e_S_partOf {A : AS} {h : jHp} (x : CX A h) {f S : Nat} (hf : f < 4) (hS : S < 2 ^ 32) : f_S_partOf [.ref 1, .int (nI f), .int (nI S)] h = some (some (.int (nI (prt f (slM A S)))), h) := by
  obtain ⟨hs, w, cb, -⟩ := x
  have es := e_B_slotsOf hs w cb hS
  have ep := e_B_partOf (h := h) hf (slM_lt w S)
  simp (disch := first | assumption | omega) [f_S_partOf, body_S_partOf, j_meth, j_out, j_rok, j_pad, lg_sl, s_seq_w, isN_inl, isN_inr, s_if, jb, x_c, x_iloc, x_aloc, x_lloc, x_bin, x_un, o_add, o_sub, o_mul, o_and, o_or, o_xor, o_shl, o_shr, o_ushr, o_max, o_min, o_i2b, o_i2c, o_i2l, o_l2i, x_fld, j_fget, x_idx, j_aget, x_len, j_alen, x_ofb, x_ite, xs_nil, xs_cons, x_callv, x_calls, s_callv, s_calls, j_recv, j_ret, j_retv, b_cmp, b_and, b_or, b_not, b_ofi, b_ite, b_true, s_skip, s_set, j_ty, j_lset, j_kill, s_inc, s_fput, j_fput, s_fop, s_aput, j_aput, j_nar, s_aop, s_ret, s_retv, s_go, s_pop, x_linc, x_finc, Value.category, if_icmp.holds, List.flatMap_cons, List.flatMap_nil, List.length_cons, List.length_append, List.length_nil, List.set_cons_succ, List.set_cons_zero, List.getElem?_cons_succ, List.getElem?_cons_zero, List.replicate, ite_and', ite_or', ite_int', nI_leI, nI_ltI, nI_eq, nI_add, nI_1, pk_mul, nI_clamp, n_in', nI_pos', nI_pos, n_m1e, n_01, n_10, sT_1, sR_1_0, sR_1_1, sR_1_2, sR_1_3, sR_1_4, sR_1_5, sR_1_6, sR_1_7, sR_1_8, sR_1_9, sT_2, sT_3, sT_4, sT_5, sT_6, sT_7, sT_8, sT_9, sT_10, sT_11, sT_12, sT_13, sT_14, sR_2_1, sR_2_2, sR_2_3, sR_2_4, sR_2_5, sR_2_6, sR_2_7, sR_2_8, sR_2_9, sR_2_10, sR_2_11, sR_2_12, sT_15, sT_16, sT_17, sT_18, sT_19, sT_20, sT_21, sT_22, sT_23, sR_15_1, sR_15_2, sR_15_3, sR_15_4, sR_15_5, sR_15_6, sR_15_7, sR_15_8, sT_24, sT_25, sT_26, sT_27, sT_28, sT_29, sR_24_1, sR_24_2, sR_24_3, sR_24_4, sR_24_5, sT_71, sT_72, sR_71_0, sR_71_1, sR_71_2, sR_71_3, sR_71_4, sT_73, sT_74, sT_75, sR_73_0, sR_73_1, sR_73_2, sR_73_3, sR_73_4, sR_73_5, sT_84, sT_85, sT_86, sT_87, sR_84_0, sR_84_1, sR_84_2, sR_84_3, sR_84_4, sR_84_5, sT_88, sT_89, sR_88_0, sT_90, sT_91, sR_90_0, es, ep]
theorem okW_dk {k a j : Nat} (hk : k < 4) (h : Wdk k a j) : okW a j := Or.inl ⟨k, hk, h⟩
theorem o_S_take {A : AS} {tx : List Nat} {rw : List Int32} {h : jHp} (r : RC A tx rw h) (f x : Int32) : ∃ h', f_S_take [.ref 1, .int f, .int x] h = some (some (.int (vTake A f x)), h') ∧ RC A tx rw h' ∧ FC h h' := by
  have r0 := r
  obtain ⟨mk, ⟨ca, bl, d, sp⟩, c11, ct, cr, cs⟩ := r
  have hs := mk.1.1
  have w := mk.1.2.1
  have cb := mk.1.2.2.1
  have hno := w.2.1
  have hp := p20 w
  have ef := e_S_hasOffice hs w c11 f
  have ex := e_B_hasSet hs w cb x
  unfold vTake
  by_cases hf : j_in f (aNo A) = true
  case neg =>
    rw [if_neg (fun q => hf q.1)]
    rw [if_neg hf] at ef
    refine ⟨h, ?_, r0, FC_refl h⟩
    simp (disch := first | assumption | omega) [f_S_take, body_S_take, j_meth, j_out, j_rok, j_pad, lg_sl, s_seq_w, isN_inl, isN_inr, s_if, jb, x_c, x_iloc, x_aloc, x_lloc, x_bin, x_un, o_add, o_sub, o_mul, o_and, o_or, o_xor, o_shl, o_shr, o_ushr, o_max, o_min, o_i2b, o_i2c, o_i2l, o_l2i, x_fld, j_fget, x_idx, j_aget, x_len, j_alen, x_ofb, x_ite, xs_nil, xs_cons, x_callv, x_calls, s_callv, s_calls, j_recv, j_ret, j_retv, b_cmp, b_and, b_or, b_not, b_ofi, b_ite, b_true, s_skip, s_set, j_ty, j_lset, j_kill, s_inc, s_fput, j_fput, s_fop, s_aput, j_aput, j_nar, s_aop, s_ret, s_retv, s_go, s_pop, x_linc, x_finc, Value.category, if_icmp.holds, List.flatMap_cons, List.flatMap_nil, List.length_cons, List.length_append, List.length_nil, List.set_cons_succ, List.set_cons_zero, List.getElem?_cons_succ, List.getElem?_cons_zero, List.replicate, ite_and', ite_or', ite_int', nI_leI, nI_ltI, nI_eq, nI_add, nI_1, pk_mul, nI_clamp, n_in', nI_pos', nI_pos, n_m1e, n_01, n_10, sT_1, sR_1_0, sR_1_1, sR_1_2, sR_1_3, sR_1_4, sR_1_5, sR_1_6, sR_1_7, sR_1_8, sR_1_9, sT_2, sT_3, sT_4, sT_5, sT_6, sT_7, sT_8, sT_9, sT_10, sT_11, sT_12, sT_13, sT_14, sR_2_1, sR_2_2, sR_2_3, sR_2_4, sR_2_5, sR_2_6, sR_2_7, sR_2_8, sR_2_9, sR_2_10, sR_2_11, sR_2_12, sT_15, sT_16, sT_17, sT_18, sT_19, sT_20, sT_21, sT_22, sT_23, sR_15_1, sR_15_2, sR_15_3, sR_15_4, sR_15_5, sR_15_6, sR_15_7, sR_15_8, sT_24, sT_25, sT_26, sT_27, sT_28, sT_29, sR_24_1, sR_24_2, sR_24_3, sR_24_4, sR_24_5, sT_71, sT_72, sR_71_0, sR_71_1, sR_71_2, sR_71_3, sR_71_4, sT_73, sT_74, sT_75, sR_73_0, sR_73_1, sR_73_2, sR_73_3, sR_73_4, sR_73_5, sT_84, sT_85, sT_86, sT_87, sR_84_0, sR_84_1, sR_84_2, sR_84_3, sR_84_4, sR_84_5, sT_88, sT_89, sR_88_0, sT_90, sT_91, sR_90_0, ef]
  rw [if_pos hf] at ef
  have h10 : ((1 : Int32) = 0) = False := by decide
  by_cases hx : j_in x (2 ^ aNb A) = true
  case neg =>
    rw [if_neg (fun q => hx q.2)]
    rw [if_neg hx] at ex
    refine ⟨h, ?_, r0, FC_refl h⟩
    simp (disch := first | assumption | omega) [f_S_take, body_S_take, j_meth, j_out, j_rok, j_pad, lg_sl, s_seq_w, isN_inl, isN_inr, s_if, jb, x_c, x_iloc, x_aloc, x_lloc, x_bin, x_un, o_add, o_sub, o_mul, o_and, o_or, o_xor, o_shl, o_shr, o_ushr, o_max, o_min, o_i2b, o_i2c, o_i2l, o_l2i, x_fld, j_fget, x_idx, j_aget, x_len, j_alen, x_ofb, x_ite, xs_nil, xs_cons, x_callv, x_calls, s_callv, s_calls, j_recv, j_ret, j_retv, b_cmp, b_and, b_or, b_not, b_ofi, b_ite, b_true, s_skip, s_set, j_ty, j_lset, j_kill, s_inc, s_fput, j_fput, s_fop, s_aput, j_aput, j_nar, s_aop, s_ret, s_retv, s_go, s_pop, x_linc, x_finc, Value.category, if_icmp.holds, List.flatMap_cons, List.flatMap_nil, List.length_cons, List.length_append, List.length_nil, List.set_cons_succ, List.set_cons_zero, List.getElem?_cons_succ, List.getElem?_cons_zero, List.replicate, ite_and', ite_or', ite_int', nI_leI, nI_ltI, nI_eq, nI_add, nI_1, pk_mul, nI_clamp, n_in', nI_pos', nI_pos, n_m1e, n_01, n_10, sT_1, sR_1_0, sR_1_1, sR_1_2, sR_1_3, sR_1_4, sR_1_5, sR_1_6, sR_1_7, sR_1_8, sR_1_9, sT_2, sT_3, sT_4, sT_5, sT_6, sT_7, sT_8, sT_9, sT_10, sT_11, sT_12, sT_13, sT_14, sR_2_1, sR_2_2, sR_2_3, sR_2_4, sR_2_5, sR_2_6, sR_2_7, sR_2_8, sR_2_9, sR_2_10, sR_2_11, sR_2_12, sT_15, sT_16, sT_17, sT_18, sT_19, sT_20, sT_21, sT_22, sT_23, sR_15_1, sR_15_2, sR_15_3, sR_15_4, sR_15_5, sR_15_6, sR_15_7, sR_15_8, sT_24, sT_25, sT_26, sT_27, sT_28, sT_29, sR_24_1, sR_24_2, sR_24_3, sR_24_4, sR_24_5, sT_71, sT_72, sR_71_0, sR_71_1, sR_71_2, sR_71_3, sR_71_4, sT_73, sT_74, sT_75, sR_73_0, sR_73_1, sR_73_2, sR_73_3, sR_73_4, sR_73_5, sT_84, sT_85, sT_86, sT_87, sR_84_0, sR_84_1, sR_84_2, sR_84_3, sR_84_4, sR_84_5, sT_88, sT_89, sR_88_0, sT_90, sT_91, sR_90_0, ef, ex, h10]
  rw [if_pos hx] at ex
  rw [if_pos ⟨hf, hx⟩]
  obtain ⟨f, hf', rfl⟩ := j_in_ex hf (by omega)
  obtain ⟨S, hS, rfl⟩ := j_in_ex hx (by omega)
  rw [nI_clamp (by omega), nI_clamp (by omega)]
  have ep := e_S_partOf mk.1 (f := f) (S := S) (by omega) (by omega)
  obtain ⟨h1, e1, f1, t1⟩ := e_D_takes mk.1 (by omega) (d f (by omega)).1 (d f (by omega)).2 (prt_slM_lt w f S)
  have x1 := CX_fr mk.1 f1 fun a j q => Wdk_cC (by omega) q
  have e2 := e_B_setOfPart x1 (f := f) (P := tP A f 0 (prt f (slM A S))) (by omega) (tP_256 _ _ _ _)
  rw [tP_set w f S] at e2
  have hs1 := x1.1
  refine ⟨h1, ?_, RC_mk r0 d sp f1 (fun a j q => okW_dk (by omega) q) (DK_1 (by omega) d f1 t1) (CRw_fr cr f1 fun a j q => by have := Wdk_lt (k := f) (by omega) q; omega)⟩
  obtain ⟨t1, -, -, -, -, -, -, -, -, r30⟩ := DSh_of hs (k := f) (by omega)
  have t30 := sT_30 hs
  have n0 : dA f ≠ 0 := by unfold dA; omega
  generalize sTk A f S = R at *
  generalize tP A f 0 (prt f (slM A S)) = T at *
  generalize prt f (slM A S) = P at *
  clear d f1 x1
  generalize dA f = D at *
  simp (disch := first | assumption | omega) [f_S_take, body_S_take, j_meth, j_out, j_rok, j_pad, lg_sl, s_seq_w, isN_inl, isN_inr, s_if, jb, x_c, x_iloc, x_aloc, x_lloc, x_bin, x_un, o_add, o_sub, o_mul, o_and, o_or, o_xor, o_shl, o_shr, o_ushr, o_max, o_min, o_i2b, o_i2c, o_i2l, o_l2i, x_fld, j_fget, x_idx, j_aget, x_len, j_alen, x_ofb, x_ite, xs_nil, xs_cons, x_callv, x_calls, s_callv, s_calls, j_recv, j_ret, j_retv, b_cmp, b_and, b_or, b_not, b_ofi, b_ite, b_true, s_skip, s_set, j_ty, j_lset, j_kill, s_inc, s_fput, j_fput, s_fop, s_aput, j_aput, j_nar, s_aop, s_ret, s_retv, s_go, s_pop, x_linc, x_finc, Value.category, if_icmp.holds, List.flatMap_cons, List.flatMap_nil, List.length_cons, List.length_append, List.length_nil, List.set_cons_succ, List.set_cons_zero, List.getElem?_cons_succ, List.getElem?_cons_zero, List.replicate, ite_and', ite_or', ite_int', nI_leI, nI_ltI, nI_eq, nI_add, nI_1, pk_mul, nI_clamp, n_in', nI_pos', nI_pos, n_m1e, n_01, n_10, sT_1, sR_1_0, sR_1_1, sR_1_2, sR_1_3, sR_1_4, sR_1_5, sR_1_6, sR_1_7, sR_1_8, sR_1_9, sT_2, sT_3, sT_4, sT_5, sT_6, sT_7, sT_8, sT_9, sT_10, sT_11, sT_12, sT_13, sT_14, sR_2_1, sR_2_2, sR_2_3, sR_2_4, sR_2_5, sR_2_6, sR_2_7, sR_2_8, sR_2_9, sR_2_10, sR_2_11, sR_2_12, sT_15, sT_16, sT_17, sT_18, sT_19, sT_20, sT_21, sT_22, sT_23, sR_15_1, sR_15_2, sR_15_3, sR_15_4, sR_15_5, sR_15_6, sR_15_7, sR_15_8, sT_24, sT_25, sT_26, sT_27, sT_28, sT_29, sR_24_1, sR_24_2, sR_24_3, sR_24_4, sR_24_5, sT_71, sT_72, sR_71_0, sR_71_1, sR_71_2, sR_71_3, sR_71_4, sT_73, sT_74, sT_75, sR_73_0, sR_73_1, sR_73_2, sR_73_3, sR_73_4, sR_73_5, sT_84, sT_85, sT_86, sT_87, sR_84_0, sR_84_1, sR_84_2, sR_84_3, sR_84_4, sR_84_5, sT_88, sT_89, sR_88_0, sT_90, sT_91, sR_90_0, ef, ex, h10, t30, r30, n0, ep, t1, e1, e2]
