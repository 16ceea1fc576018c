/-! best -/
theorem inj_sur {σ : Nat → Nat} {N : Nat} (h1 : ∀ i, i < N → σ i < N) (h2 : ∀ i j, i < N → j < N → σ i = σ j → i = j) {k : Nat} (hk : k < N) : ∃ i, i < N ∧ σ i = k := by
  apply Classical.byContradiction
  intro hno
  have hnd : (k :: (List.range N).map σ).Nodup := by
    rw [List.nodup_cons]
    refine ⟨fun h => ?_, ?_⟩
    · obtain ⟨i, i1, i2⟩ := List.mem_map.mp h
      exact hno ⟨i, List.mem_range.mp i1, i2⟩
    · unfold List.Nodup
      rw [List.pairwise_map]
      refine List.Pairwise.imp_of_mem ?_ List.nodup_range
      intro a b ha hb hne e
      exact hne (h2 _ _ (List.mem_range.mp ha) (List.mem_range.mp hb) e)
  have := nd_le (N := N) hnd (fun x hx => by
    rcases List.mem_cons.mp hx with e | hx
    · rw [e]; exact hk
    · obtain ⟨i, i1, i2⟩ := List.mem_map.mp hx
      rw [← i2]
      exact h1 _ (List.mem_range.mp i1))
  simp at this
  omega
theorem sum_le {f g : Nat → Nat} : ∀ n, (∀ p, p < n → f p ≤ g p) → nfo (fun p m => m + f p) n 0 ≤ nfo (fun p m => m + g p) n 0 ∧ (nfo (fun p m => m + f p) n 0 = nfo (fun p m => m + g p) n 0 → ∀ p, p < n → f p = g p) := by
  intro n
  induction n with
  | zero => intro _; exact ⟨Nat.le_refl _, fun _ p hp => by omega⟩
  | succ n ih =>
    intro h
    obtain ⟨i1, i2⟩ := ih fun p hp => h p (by omega)
    have e1 : nfo (fun p m => m + f p) (n + 1) 0 = nfo (fun p m => m + f p) n 0 + f n := rfl
    have e2 : nfo (fun p m => m + g p) (n + 1) 0 = nfo (fun p m => m + g p) n 0 + g n := rfl
    have hn := h n (by omega)
    rw [e1, e2]
    refine ⟨by omega, fun e p hp => ?_⟩
    by_cases q : p = n
    · subst q; omega
    · exact i2 (by omega) p (by omega)
theorem bet_sum {A : AS} (w : WF A) {a b : Nat} (ha : FRk A a) (hb : FRk A b) (h : sBet A a b = true) : rkS7 A a < rkS7 A b := by
  obtain ⟨h1, h2⟩ := (bet_fld w ha hb).mp h
  obtain ⟨s1, s2⟩ := sum_le 7 h1
  rw [← rkS7_g, ← rkS7_g] at s1 s2
  apply Nat.lt_of_le_of_ne s1
  intro e
  apply h2
  rw [rkN_fN, rkN_fN]
  exact fN_cg (s2 e)
/-- one is beyond another -/
def bb (A : AS) (l : List Nat) (u : Bool) (a b : Nat) : Bool := if u then sBet A (l.getD a 0) (l.getD b 0) else sBet A (l.getD b 0) (l.getD a 0)
def exP (A : AS) (l : List Nat) (σ : Nat → Nat) (u : Bool) (i : Nat) : Bool := !(i == (if u then 0 else l.length - 1)) && !bb A l u (σ (if u then 0 else l.length - 1)) (σ i)
theorem best_ok {A : AS} (w : WF A) {l : List Nat} (hf : ∀ i, i < l.length → FRk A (l.getD i 0)) {σ : Nat → Nat} (s1 : ∀ i, i < l.length → σ i < l.length) (s2 : ∀ i j, i < l.length → j < l.length → σ i = σ j → i = j) (s3 : ∀ i j, i < l.length → j < l.length → i < j → rkS7 A (l.getD (σ i) 0) ≤ rkS7 A (l.getD (σ j) 0)) (hl : l.length ≠ 0) (u : Bool) : sBst A l u = if (fst1 (exP A l σ u) l.length).isNone then some (σ (if u then 0 else l.length - 1)) else none := by
  have hat : (if u then 0 else l.length - 1) < l.length := by split <;> omega
  have hsum : ∀ a b, a < l.length → b < l.length → bb A l u a b = true → if u then rkS7 A (l.getD a 0) < rkS7 A (l.getD b 0) else rkS7 A (l.getD b 0) < rkS7 A (l.getD a 0) := by
    intro a b ha hb h
    unfold bb at h
    cases u with
    | true => simp only [if_true] at h ⊢; exact bet_sum w (hf a ha) (hf b hb) h
    | false => simp only [Bool.false_eq_true, if_false] at h ⊢; exact bet_sum w (hf b hb) (hf a ha) h
  have hP : ∀ k, (fst1 (fun i => !sBstP A l u k i) l.length).isNone = true ↔ ∀ i, i < l.length → i ≠ k → bb A l u k i = true := by
    intro k
    rw [fst1_all]
    constructor
    · intro h i hi hne
      have := h i hi
      unfold sBstP at this
      simp only [Bool.not_eq_false', Bool.or_eq_true, beq_iff_eq] at this
      rcases this with e | e
      · exact absurd e hne
      · exact e
    · intro h i hi
      unfold sBstP
      simp only [Bool.not_eq_false', Bool.or_eq_true, beq_iff_eq]
      by_cases e : i = k
      · exact Or.inl e
      · exact Or.inr (h i hi e)
  have hE : (fst1 (exP A l σ u) l.length).isNone = true ↔ ∀ i, i < l.length → i ≠ (if u then 0 else l.length - 1) → bb A l u (σ (if u then 0 else l.length - 1)) (σ i) = true := by
    rw [fst1_all]
    constructor
    · intro h i hi hne
      have := h i hi
      unfold exP at this
      simp only [Bool.and_eq_false_iff, Bool.not_eq_false', beq_iff_eq] at this
      rcases this with e | e
      · exact absurd e hne
      · exact e
    · intro h i hi
      unfold exP
      simp only [Bool.and_eq_false_iff, Bool.not_eq_false', beq_iff_eq]
      by_cases e : i = (if u then 0 else l.length - 1)
      · exact Or.inl e
      · exact Or.inr (h i hi e)
  unfold sBst
  by_cases hq : (fst1 (exP A l σ u) l.length).isNone = true
  · rw [if_pos hq]
    have hq' := hE.mp hq
    have hbest : ∀ i, i < l.length → i ≠ σ (if u then 0 else l.length - 1) → bb A l u (σ (if u then 0 else l.length - 1)) i = true := by
      intro i hi hne
      obtain ⟨j, hj, rfl⟩ := inj_sur s1 s2 hi
      exact hq' j hj fun e => hne (by rw [e])
    refine fst1_of (s1 _ hat) ((hP _).mpr hbest) fun m hm => ?_
    cases hc : (fst1 (fun i => !sBstP A l u m i) l.length).isNone with
    | false => rfl
    | true =>
      have hml : m < l.length := Nat.lt_trans hm (s1 _ hat)
      have z1 := hsum _ _ hml (s1 _ hat) ((hP m).mp hc _ (s1 _ hat) (by omega))
      have z2 := hsum _ _ (s1 _ hat) hml (hbest m hml (by omega))
      cases u with
      | true => simp only [if_true] at z1 z2; omega
      | false => simp only [Bool.false_eq_true, if_false] at z1 z2; omega
  · rw [if_neg hq]
    refine fst1_no fun k hk => ?_
    cases hc : (fst1 (fun i => !sBstP A l u k i) l.length).isNone with
    | false => rfl
    | true =>
      exfalso
      have hb := (hP k).mp hc
      obtain ⟨j, hj, rfl⟩ := inj_sur s1 s2 hk
      by_cases e : j = (if u then 0 else l.length - 1)
      · apply hq
        rw [hE]
        intro i hi hne
        rw [← e]
        exact hb _ (s1 i hi) fun z => hne (by rw [s2 _ _ hi hj z]; exact e)
      · have z1 := hsum _ _ (s1 j hj) (s1 _ hat) (hb _ (s1 _ hat) fun z => e (s2 _ _ hj hat z.symm))
        cases u with
        | true =>
          simp only [if_true] at z1 hat e
          have := s3 0 j hat hj (by omega)
          omega
        | false =>
          simp only [Bool.false_eq_true, if_false] at z1 hat e
          have := s3 j (l.length - 1) hj hat (by omega)
          omega
/-- what is read of the sorted ones -/
theorem KNS_RK {A : AS} {h : jHp} (k : KNS A h) : ∃ fa fl ra rl so di qu co σ, KF A fa fl h ∧ RKa A (sAllR A) σ ra rl h ∧ (hR h 77 9 = so ∧ hT h so = (1, rl) ∧ so ≠ 0) ∧ (hR h 77 10 = di ∧ hT h di = (1, rl) ∧ di ≠ 0) ∧ (hR h 77 11 = qu ∧ hT h qu = (1, rl) ∧ qu ≠ 0) ∧ (hR h 77 12 = co ∧ hT h co = (1, rl) ∧ co ≠ 0) ∧ (∀ i, i < (sAllR A).length → σ i < (sAllR A).length ∧ hI h so i = nI (σ i)) ∧ (∀ i j, i < (sAllR A).length → j < (sAllR A).length → σ i = σ j → i = j) ∧ (∀ i j, i < (sAllR A).length → j < (sAllR A).length → i < j → rkS7 A ((sAllR A).getD (σ i) 0) ≤ rkS7 A ((sAllR A).getD (σ j) 0)) ∧ (fa ≠ so ∧ fa ≠ di ∧ fa ≠ qu ∧ fa ≠ co ∧ so ≠ di ∧ so ≠ qu ∧ so ≠ co ∧ di ≠ qu ∧ di ≠ co ∧ qu ≠ co) ∧ (isG so ∧ isG di ∧ isG qu ∧ isG co) := by
  obtain ⟨fa, fl, sl, ra, rl, so, di, qu, co, g, k4, ⟨k7, kl, k8⟩, k5, kr, σ, s1, s2, s3⟩ := k
  obtain ⟨⟨a1, a2, a3, a4, a5, a6, a7, a8, a9, a10, a11, a12, a13, a14⟩, ⟨i1, i2, i3, i4, i5, i6, i7⟩, ⟨b1, b2, b3, b4, b5, b6, b7⟩, ⟨n1, n2, n3, n4, n5, n6, n7, n8, n9, n10⟩, ⟨i, hi, hfl⟩, ⟨j, hj, hrl⟩⟩ := g
  have hb : (64 * 2 ^ i) ≤ 64 * 2 ^ 8 := Nat.mul_le_mul_left _ (Nat.pow_le_pow_right (by decide) hi)
  have hb2 : (64 * 2 ^ j) ≤ 64 * 2 ^ 8 := Nat.mul_le_mul_left _ (Nat.pow_le_pow_right (by decide) hj)
  refine ⟨fa, fl, ra, rl, so, di, qu, co, σ, ⟨⟨a3, a2, by unfold isG at i1; omega, i1⟩, k7, kl, by omega, k8⟩, ⟨a5, by unfold isG at i3; omega, a6, kr, by omega, fun i hi => (s1 i hi).2.2⟩, ⟨a7, a8, by unfold isG at i4; omega⟩, ⟨a9, a10, by unfold isG at i5; omega⟩, ⟨a11, a12, by unfold isG at i6; omega⟩, ⟨a13, a14, by unfold isG at i7; omega⟩, fun i hi => ⟨(s1 i hi).1, (s1 i hi).2.1⟩, s2, s3, ⟨n1, n2, n3, n4, n5, n6, n7, n8, n9, n10⟩, i4, i5, i6, i7⟩
theorem e_St_extreme {A : AS} {tx : List Nat} {rw : List Int32} {h : jHp} (r : RC A tx rw h) (k : KNW A h) (u : Bool) : ∃ h', f_St_extreme [.ref 77, .int (if u then 1 else 0)] h = some (some (.int (oI (sBst A (sAllR A) u))), h') ∧ RC A tx rw h' ∧ FC h h' ∧ KNW A h' := by
  have hs := r.1.1.1
  have w := r.1.1.2.1
  have hlen := sAllR_len w
  obtain ⟨fa, fl, kf⟩ := KNW_KF k
  have hz := KF_z w kf
  have t77 := sT_77 hs
  have h10 : ((1 : Int32) = 0) = False := by decide
  by_cases hl0 : (sAllR A).length = 0
  · have hb : sBst A (sAllR A) u = none := by unfold sBst; rw [hl0]; rfl
    rw [hb, oI_n]
    refine ⟨h, ?_, r, FC_refl h, k⟩
    clear kf
    generalize (sAllR A).length = LL at *
    cases u <;> simp (disch := first | assumption | omega) [f_St_extreme, body_St_extreme, j_meth, j_out, j_rok, j_pad, lg_sl, s_seq_w, isN_inl, isN_inr, s_if, jb, x_c, x_iloc, x_aloc, x_lloc, x_bin, x_un, o_add, o_sub, o_mul, o_and, o_or, o_xor, o_shl, o_shr, o_ushr, o_max, o_min, o_i2b, o_i2c, o_i2l, o_l2i, x_fld, j_fget, x_idx, j_aget, x_len, j_alen, x_ofb, x_ite, xs_nil, xs_cons, x_callv, x_calls, s_callv, s_calls, j_recv, j_ret, j_retv, b_cmp, b_and, b_or, b_not, b_ofi, b_ite, b_true, s_skip, s_set, j_ty, j_lset, j_kill, s_inc, s_fput, j_fput, s_fop, s_aput, j_aput, j_nar, s_aop, s_ret, s_retv, s_go, s_pop, x_linc, x_finc, Value.category, if_icmp.holds, List.flatMap_cons, List.flatMap_nil, List.length_cons, List.length_append, List.length_nil, List.set_cons_succ, List.set_cons_zero, List.getElem?_cons_succ, List.getElem?_cons_zero, List.replicate, ite_and', ite_or', ite_int', nI_leI, nI_ltI, nI_eq, nI_add, nI_1, pk_mul, nI_clamp, n_in', nI_pos', nI_pos, n_m1e, n_01, n_10, sT_1, sR_1_0, sR_1_1, sR_1_2, sR_1_3, sR_1_4, sR_1_5, sR_1_6, sR_1_7, sR_1_8, sR_1_9, sT_2, sT_3, sT_4, sT_5, sT_6, sT_7, sT_8, sT_9, sT_10, sT_11, sT_12, sT_13, sT_14, sR_2_1, sR_2_2, sR_2_3, sR_2_4, sR_2_5, sR_2_6, sR_2_7, sR_2_8, sR_2_9, sR_2_10, sR_2_11, sR_2_12, sT_15, sT_16, sT_17, sT_18, sT_19, sT_20, sT_21, sT_22, sT_23, sR_15_1, sR_15_2, sR_15_3, sR_15_4, sR_15_5, sR_15_6, sR_15_7, sR_15_8, sT_24, sT_25, sT_26, sT_27, sT_28, sT_29, sR_24_1, sR_24_2, sR_24_3, sR_24_4, sR_24_5, sT_71, sT_72, sR_71_0, sR_71_1, sR_71_2, sR_71_3, sR_71_4, sT_73, sT_74, sT_75, sR_73_0, sR_73_1, sR_73_2, sR_73_3, sR_73_4, sR_73_5, sT_84, sT_85, sT_86, sT_87, sR_84_0, sR_84_1, sR_84_2, sR_84_3, sR_84_4, sR_84_5, sT_88, sT_89, sR_88_0, sT_90, sT_91, sR_90_0, t77, hz, hl0]
  obtain ⟨h1, e1, r1, fc1, ks⟩ := e_St_sort r k
  have hs1 := r1.1.1.1
  have kn1 : KNW A h1 := by
    obtain ⟨fa, fl, sl, ra, rl, so, di, qu, co, g, k4, ⟨k7, kl, k8⟩, k5, kr, ks⟩ := ks
    exact ⟨fa, fl, sl, ra, rl, so, di, qu, co, g, k4, Or.inr ⟨k4, rfl, k7, kl, k8, Or.inr ⟨k5, kr, ks⟩⟩⟩
  obtain ⟨fa1, fl1, ra, rl, so, di, qu, co, σ, kf1, rk, ⟨so1, so2, so3⟩, -, -, -, s1, s2, s3, -, -⟩ := KNS_RK ks
  have hfr : ∀ i, i < (sAllR A).length → FRk A ((sAllR A).getD i 0) := fun i hi => FRk_all w hi
  have hfr' : ∀ i, i < (sAllR A).length → FRk A ((sAllR A).getD (σ i) 0) := fun i hi => hfr _ (s1 i hi).1
  rw [best_ok w hfr (fun i hi => (s1 i hi).1) s2 s3 hl0 u]
  refine ⟨h1, ?_, r1, fc1, kn1⟩
  have t1 := sT_77 hs1
  have k7 := kf1.2.1
  have hrl := rk.2.2.2.2.1
  have hrn := rk.2.2.2.1
  have hat : (if u then 0 else (sAllR A).length - 1) < (sAllR A).length := by split <;> omega
  generalize hAT : (if u then 0 else (sAllR A).length - 1) = at' at *
  have hL := loop_1 (lb := 1) (lc := 2) (c := lc_St_extreme_1) (b := lb_St_extreme_1) (u := lu_St_extreme_1) (sAllR A).length (fun i => (([.ref 77, .int (if u then 1 else 0), .int (nI at'), .int (nI i)], h1) : jS)) (exP A (sAllR A) σ u)
    (fun i => (.inr (some (.int (-1))), ([.ref 77, .int (if u then 1 else 0), .int (nI at'), .int (nI i)], h1)))
    (fun i hi hp => by
      unfold exP at hp
      rw [hAT] at hp
      simp only [Bool.and_eq_true, Bool.not_eq_true', beq_eq_false_iff_ne] at hp
      have eb := e_St_isBeyond hs1 w rk hfr' hat hi u
      have hb : (if u then sBet A ((sAllR A).getD (σ at') 0) ((sAllR A).getD (σ i) 0) else sBet A ((sAllR A).getD (σ i) 0) ((sAllR A).getD (σ at') 0)) = bb A (sAllR A) u (σ at') (σ i) := rfl
      rw [hb, hp.2] at eb
      simp only [Bool.false_eq_true, if_false] at eb
      have hne : (nI i = nI at') = False := eq_false fun e => hp.1 ((n_eq (by omega) (by omega)).mp e)
      clear kf1 rk hfr hfr' s1 s2 s3 ks kn1 hb hp
      generalize (sAllR A).length = LL at *
      cases u <;> simp only [if_true, Bool.false_eq_true, if_false] at eb ⊢ <;> simp (disch := first | assumption | omega) [lstp, lc_St_extreme_1, lb_St_extreme_1, lu_St_extreme_1, j_meth, j_out, j_rok, j_pad, lg_sl, s_seq_w, isN_inl, isN_inr, s_if, jb, x_c, x_iloc, x_aloc, x_lloc, x_bin, x_un, o_add, o_sub, o_mul, o_and, o_or, o_xor, o_shl, o_shr, o_ushr, o_max, o_min, o_i2b, o_i2c, o_i2l, o_l2i, x_fld, j_fget, x_idx, j_aget, x_len, j_alen, x_ofb, x_ite, xs_nil, xs_cons, x_callv, x_calls, s_callv, s_calls, j_recv, j_ret, j_retv, b_cmp, b_and, b_or, b_not, b_ofi, b_ite, b_true, s_skip, s_set, j_ty, j_lset, j_kill, s_inc, s_fput, j_fput, s_fop, s_aput, j_aput, j_nar, s_aop, s_ret, s_retv, s_go, s_pop, x_linc, x_finc, Value.category, if_icmp.holds, List.flatMap_cons, List.flatMap_nil, List.length_cons, List.length_append, List.length_nil, List.set_cons_succ, List.set_cons_zero, List.getElem?_cons_succ, List.getElem?_cons_zero, List.replicate, ite_and', ite_or', ite_int', nI_leI, nI_ltI, nI_eq, nI_add, nI_1, pk_mul, nI_clamp, n_in', nI_pos', nI_pos, n_m1e, n_01, n_10, sT_1, sR_1_0, sR_1_1, sR_1_2, sR_1_3, sR_1_4, sR_1_5, sR_1_6, sR_1_7, sR_1_8, sR_1_9, sT_2, sT_3, sT_4, sT_5, sT_6, sT_7, sT_8, sT_9, sT_10, sT_11, sT_12, sT_13, sT_14, sR_2_1, sR_2_2, sR_2_3, sR_2_4, sR_2_5, sR_2_6, sR_2_7, sR_2_8, sR_2_9, sR_2_10, sR_2_11, sR_2_12, sT_15, sT_16, sT_17, sT_18, sT_19, sT_20, sT_21, sT_22, sT_23, sR_15_1, sR_15_2, sR_15_3, sR_15_4, sR_15_5, sR_15_6, sR_15_7, sR_15_8, sT_24, sT_25, sT_26, sT_27, sT_28, sT_29, sR_24_1, sR_24_2, sR_24_3, sR_24_4, sR_24_5, sT_71, sT_72, sR_71_0, sR_71_1, sR_71_2, sR_71_3, sR_71_4, sT_73, sT_74, sT_75, sR_73_0, sR_73_1, sR_73_2, sR_73_3, sR_73_4, sR_73_5, sT_84, sT_85, sT_86, sT_87, sR_84_0, sR_84_1, sR_84_2, sR_84_3, sR_84_4, sR_84_5, sT_88, sT_89, sR_88_0, sT_90, sT_91, sR_90_0, t1, k7, hi, hne, eb])
    (fun i hi hp => by
      unfold exP at hp
      rw [hAT] at hp
      simp only [Bool.and_eq_false_iff, Bool.not_eq_false', beq_iff_eq] at hp
      by_cases hia : i = at'
      · have hne : (nI i = nI at') = True := eq_true (by rw [hia])
        clear kf1 rk hfr hfr' s1 s2 s3 ks kn1 hp
        generalize (sAllR A).length = LL at *
        subst hia
        cases u <;> simp (disch := first | assumption | omega) [lstp, lc_St_extreme_1, lb_St_extreme_1, lu_St_extreme_1, j_meth, j_out, j_rok, j_pad, lg_sl, s_seq_w, isN_inl, isN_inr, s_if, jb, x_c, x_iloc, x_aloc, x_lloc, x_bin, x_un, o_add, o_sub, o_mul, o_and, o_or, o_xor, o_shl, o_shr, o_ushr, o_max, o_min, o_i2b, o_i2c, o_i2l, o_l2i, x_fld, j_fget, x_idx, j_aget, x_len, j_alen, x_ofb, x_ite, xs_nil, xs_cons, x_callv, x_calls, s_callv, s_calls, j_recv, j_ret, j_retv, b_cmp, b_and, b_or, b_not, b_ofi, b_ite, b_true, s_skip, s_set, j_ty, j_lset, j_kill, s_inc, s_fput, j_fput, s_fop, s_aput, j_aput, j_nar, s_aop, s_ret, s_retv, s_go, s_pop, x_linc, x_finc, Value.category, if_icmp.holds, List.flatMap_cons, List.flatMap_nil, List.length_cons, List.length_append, List.length_nil, List.set_cons_succ, List.set_cons_zero, List.getElem?_cons_succ, List.getElem?_cons_zero, List.replicate, ite_and', ite_or', ite_int', nI_leI, nI_ltI, nI_eq, nI_add, nI_1, pk_mul, nI_clamp, n_in', nI_pos', nI_pos, n_m1e, n_01, n_10, sT_1, sR_1_0, sR_1_1, sR_1_2, sR_1_3, sR_1_4, sR_1_5, sR_1_6, sR_1_7, sR_1_8, sR_1_9, sT_2, sT_3, sT_4, sT_5, sT_6, sT_7, sT_8, sT_9, sT_10, sT_11, sT_12, sT_13, sT_14, sR_2_1, sR_2_2, sR_2_3, sR_2_4, sR_2_5, sR_2_6, sR_2_7, sR_2_8, sR_2_9, sR_2_10, sR_2_11, sR_2_12, sT_15, sT_16, sT_17, sT_18, sT_19, sT_20, sT_21, sT_22, sT_23, sR_15_1, sR_15_2, sR_15_3, sR_15_4, sR_15_5, sR_15_6, sR_15_7, sR_15_8, sT_24, sT_25, sT_26, sT_27, sT_28, sT_29, sR_24_1, sR_24_2, sR_24_3, sR_24_4, sR_24_5, sT_71, sT_72, sR_71_0, sR_71_1, sR_71_2, sR_71_3, sR_71_4, sT_73, sT_74, sT_75, sR_73_0, sR_73_1, sR_73_2, sR_73_3, sR_73_4, sR_73_5, sT_84, sT_85, sT_86, sT_87, sR_84_0, sR_84_1, sR_84_2, sR_84_3, sR_84_4, sR_84_5, sT_88, sT_89, sR_88_0, sT_90, sT_91, sR_90_0, t1, k7, hi]
      · have hp := hp.resolve_left hia
        have eb := e_St_isBeyond hs1 w rk hfr' hat hi u
        have hb : (if u then sBet A ((sAllR A).getD (σ at') 0) ((sAllR A).getD (σ i) 0) else sBet A ((sAllR A).getD (σ i) 0) ((sAllR A).getD (σ at') 0)) = bb A (sAllR A) u (σ at') (σ i) := rfl
        rw [hb, hp] at eb
        simp only [if_true] at eb
        have hne : (nI i = nI at') = False := eq_false fun e => hia ((n_eq (by omega) (by omega)).mp e)
        clear kf1 rk hfr hfr' s1 s2 s3 ks kn1 hb hp
        generalize (sAllR A).length = LL at *
        cases u <;> simp only [if_true, Bool.false_eq_true, if_false] at eb ⊢ <;> simp (disch := first | assumption | omega) [lstp, lc_St_extreme_1, lb_St_extreme_1, lu_St_extreme_1, j_meth, j_out, j_rok, j_pad, lg_sl, s_seq_w, isN_inl, isN_inr, s_if, jb, x_c, x_iloc, x_aloc, x_lloc, x_bin, x_un, o_add, o_sub, o_mul, o_and, o_or, o_xor, o_shl, o_shr, o_ushr, o_max, o_min, o_i2b, o_i2c, o_i2l, o_l2i, x_fld, j_fget, x_idx, j_aget, x_len, j_alen, x_ofb, x_ite, xs_nil, xs_cons, x_callv, x_calls, s_callv, s_calls, j_recv, j_ret, j_retv, b_cmp, b_and, b_or, b_not, b_ofi, b_ite, b_true, s_skip, s_set, j_ty, j_lset, j_kill, s_inc, s_fput, j_fput, s_fop, s_aput, j_aput, j_nar, s_aop, s_ret, s_retv, s_go, s_pop, x_linc, x_finc, Value.category, if_icmp.holds, List.flatMap_cons, List.flatMap_nil, List.length_cons, List.length_append, List.length_nil, List.set_cons_succ, List.set_cons_zero, List.getElem?_cons_succ, List.getElem?_cons_zero, List.replicate, ite_and', ite_or', ite_int', nI_leI, nI_ltI, nI_eq, nI_add, nI_1, pk_mul, nI_clamp, n_in', nI_pos', nI_pos, n_m1e, n_01, n_10, sT_1, sR_1_0, sR_1_1, sR_1_2, sR_1_3, sR_1_4, sR_1_5, sR_1_6, sR_1_7, sR_1_8, sR_1_9, sT_2, sT_3, sT_4, sT_5, sT_6, sT_7, sT_8, sT_9, sT_10, sT_11, sT_12, sT_13, sT_14, sR_2_1, sR_2_2, sR_2_3, sR_2_4, sR_2_5, sR_2_6, sR_2_7, sR_2_8, sR_2_9, sR_2_10, sR_2_11, sR_2_12, sT_15, sT_16, sT_17, sT_18, sT_19, sT_20, sT_21, sT_22, sT_23, sR_15_1, sR_15_2, sR_15_3, sR_15_4, sR_15_5, sR_15_6, sR_15_7, sR_15_8, sT_24, sT_25, sT_26, sT_27, sT_28, sT_29, sR_24_1, sR_24_2, sR_24_3, sR_24_4, sR_24_5, sT_71, sT_72, sR_71_0, sR_71_1, sR_71_2, sR_71_3, sR_71_4, sT_73, sT_74, sT_75, sR_73_0, sR_73_1, sR_73_2, sR_73_3, sR_73_4, sR_73_5, sT_84, sT_85, sT_86, sT_87, sR_84_0, sR_84_1, sR_84_2, sR_84_3, sR_84_4, sR_84_5, sT_88, sT_89, sR_88_0, sT_90, sT_91, sR_90_0, t1, k7, hi, hne, eb, h10])
    (by
      clear kf1 rk hfr hfr' s1 s2 s3 ks kn1
      generalize (sAllR A).length = LL at *
      cases u <;> simp (disch := first | assumption | omega) [lstp, lc_St_extreme_1, lb_St_extreme_1, lu_St_extreme_1, j_meth, j_out, j_rok, j_pad, lg_sl, s_seq_w, isN_inl, isN_inr, s_if, jb, x_c, x_iloc, x_aloc, x_lloc, x_bin, x_un, o_add, o_sub, o_mul, o_and, o_or, o_xor, o_shl, o_shr, o_ushr, o_max, o_min, o_i2b, o_i2c, o_i2l, o_l2i, x_fld, j_fget, x_idx, j_aget, x_len, j_alen, x_ofb, x_ite, xs_nil, xs_cons, x_callv, x_calls, s_callv, s_calls, j_recv, j_ret, j_retv, b_cmp, b_and, b_or, b_not, b_ofi, b_ite, b_true, s_skip, s_set, j_ty, j_lset, j_kill, s_inc, s_fput, j_fput, s_fop, s_aput, j_aput, j_nar, s_aop, s_ret, s_retv, s_go, s_pop, x_linc, x_finc, Value.category, if_icmp.holds, List.flatMap_cons, List.flatMap_nil, List.length_cons, List.length_append, List.length_nil, List.set_cons_succ, List.set_cons_zero, List.getElem?_cons_succ, List.getElem?_cons_zero, List.replicate, ite_and', ite_or', ite_int', nI_leI, nI_ltI, nI_eq, nI_add, nI_1, pk_mul, nI_clamp, n_in', nI_pos', nI_pos, n_m1e, n_01, n_10, sT_1, sR_1_0, sR_1_1, sR_1_2, sR_1_3, sR_1_4, sR_1_5, sR_1_6, sR_1_7, sR_1_8, sR_1_9, sT_2, sT_3, sT_4, sT_5, sT_6, sT_7, sT_8, sT_9, sT_10, sT_11, sT_12, sT_13, sT_14, sR_2_1, sR_2_2, sR_2_3, sR_2_4, sR_2_5, sR_2_6, sR_2_7, sR_2_8, sR_2_9, sR_2_10, sR_2_11, sR_2_12, sT_15, sT_16, sT_17, sT_18, sT_19, sT_20, sT_21, sT_22, sT_23, sR_15_1, sR_15_2, sR_15_3, sR_15_4, sR_15_5, sR_15_6, sR_15_7, sR_15_8, sT_24, sT_25, sT_26, sT_27, sT_28, sT_29, sR_24_1, sR_24_2, sR_24_3, sR_24_4, sR_24_5, sT_71, sT_72, sR_71_0, sR_71_1, sR_71_2, sR_71_3, sR_71_4, sT_73, sT_74, sT_75, sR_73_0, sR_73_1, sR_73_2, sR_73_3, sR_73_4, sR_73_5, sT_84, sT_85, sT_86, sT_87, sR_84_0, sR_84_1, sR_84_2, sR_84_3, sR_84_4, sR_84_5, sT_88, sT_89, sR_88_0, sT_90, sT_91, sR_90_0, t1, k7])
  have gs := (s1 at' hat).2
  have hin : j_in (nI at') rl = true := n_in' (by omega) (by omega)
  have hsub : nI (sAllR A).length - nI 1 = nI ((sAllR A).length - 1) := pk_sub (by omega)
  clear kf1 rk hfr hfr' s1 s2 s3 ks kn1 kf k r1 fc1 r
  cases hq : fst1 (exP A (sAllR A) σ u) (sAllR A).length with
  | none =>
    rw [hq] at hL
    simp only at hL
    simp only [Option.isNone_none, if_true]
    rw [oI_s]
    generalize σ at' = V at *
    generalize (sAllR A).length = LL at *
    cases u with
    | true =>
      simp only [if_true] at hAT hL ⊢
      subst hAT
      simp only [nI_0] at hL gs hin
      simp (disch := first | assumption | omega) [f_St_extreme, body_St_extreme, j_meth, j_out, j_rok, j_pad, lg_sl, s_seq_w, isN_inl, isN_inr, s_if, jb, x_c, x_iloc, x_aloc, x_lloc, x_bin, x_un, o_add, o_sub, o_mul, o_and, o_or, o_xor, o_shl, o_shr, o_ushr, o_max, o_min, o_i2b, o_i2c, o_i2l, o_l2i, x_fld, j_fget, x_idx, j_aget, x_len, j_alen, x_ofb, x_ite, xs_nil, xs_cons, x_callv, x_calls, s_callv, s_calls, j_recv, j_ret, j_retv, b_cmp, b_and, b_or, b_not, b_ofi, b_ite, b_true, s_skip, s_set, j_ty, j_lset, j_kill, s_inc, s_fput, j_fput, s_fop, s_aput, j_aput, j_nar, s_aop, s_ret, s_retv, s_go, s_pop, x_linc, x_finc, Value.category, if_icmp.holds, List.flatMap_cons, List.flatMap_nil, List.length_cons, List.length_append, List.length_nil, List.set_cons_succ, List.set_cons_zero, List.getElem?_cons_succ, List.getElem?_cons_zero, List.replicate, ite_and', ite_or', ite_int', nI_leI, nI_ltI, nI_eq, nI_add, nI_1, pk_mul, nI_clamp, n_in', nI_pos', nI_pos, n_m1e, n_01, n_10, sT_1, sR_1_0, sR_1_1, sR_1_2, sR_1_3, sR_1_4, sR_1_5, sR_1_6, sR_1_7, sR_1_8, sR_1_9, sT_2, sT_3, sT_4, sT_5, sT_6, sT_7, sT_8, sT_9, sT_10, sT_11, sT_12, sT_13, sT_14, sR_2_1, sR_2_2, sR_2_3, sR_2_4, sR_2_5, sR_2_6, sR_2_7, sR_2_8, sR_2_9, sR_2_10, sR_2_11, sR_2_12, sT_15, sT_16, sT_17, sT_18, sT_19, sT_20, sT_21, sT_22, sT_23, sR_15_1, sR_15_2, sR_15_3, sR_15_4, sR_15_5, sR_15_6, sR_15_7, sR_15_8, sT_24, sT_25, sT_26, sT_27, sT_28, sT_29, sR_24_1, sR_24_2, sR_24_3, sR_24_4, sR_24_5, sT_71, sT_72, sR_71_0, sR_71_1, sR_71_2, sR_71_3, sR_71_4, sT_73, sT_74, sT_75, sR_73_0, sR_73_1, sR_73_2, sR_73_3, sR_73_4, sR_73_5, sT_84, sT_85, sT_86, sT_87, sR_84_0, sR_84_1, sR_84_2, sR_84_3, sR_84_4, sR_84_5, sT_88, sT_89, sR_88_0, sT_90, sT_91, sR_90_0, t77, hz, hl0, e1, h10, nI_0, hL, t1, so1, so2, so3, hin, gs]
    | false =>
      simp only [Bool.false_eq_true, if_false] at hAT hL ⊢
      rw [hAT] at hsub
      simp only [nI_0] at hL
      simp (disch := first | assumption | omega) [f_St_extreme, body_St_extreme, j_meth, j_out, j_rok, j_pad, lg_sl, s_seq_w, isN_inl, isN_inr, s_if, jb, x_c, x_iloc, x_aloc, x_lloc, x_bin, x_un, o_add, o_sub, o_mul, o_and, o_or, o_xor, o_shl, o_shr, o_ushr, o_max, o_min, o_i2b, o_i2c, o_i2l, o_l2i, x_fld, j_fget, x_idx, j_aget, x_len, j_alen, x_ofb, x_ite, xs_nil, xs_cons, x_callv, x_calls, s_callv, s_calls, j_recv, j_ret, j_retv, b_cmp, b_and, b_or, b_not, b_ofi, b_ite, b_true, s_skip, s_set, j_ty, j_lset, j_kill, s_inc, s_fput, j_fput, s_fop, s_aput, j_aput, j_nar, s_aop, s_ret, s_retv, s_go, s_pop, x_linc, x_finc, Value.category, if_icmp.holds, List.flatMap_cons, List.flatMap_nil, List.length_cons, List.length_append, List.length_nil, List.set_cons_succ, List.set_cons_zero, List.getElem?_cons_succ, List.getElem?_cons_zero, List.replicate, ite_and', ite_or', ite_int', nI_leI, nI_ltI, nI_eq, nI_add, nI_1, pk_mul, nI_clamp, n_in', nI_pos', nI_pos, n_m1e, n_01, n_10, sT_1, sR_1_0, sR_1_1, sR_1_2, sR_1_3, sR_1_4, sR_1_5, sR_1_6, sR_1_7, sR_1_8, sR_1_9, sT_2, sT_3, sT_4, sT_5, sT_6, sT_7, sT_8, sT_9, sT_10, sT_11, sT_12, sT_13, sT_14, sR_2_1, sR_2_2, sR_2_3, sR_2_4, sR_2_5, sR_2_6, sR_2_7, sR_2_8, sR_2_9, sR_2_10, sR_2_11, sR_2_12, sT_15, sT_16, sT_17, sT_18, sT_19, sT_20, sT_21, sT_22, sT_23, sR_15_1, sR_15_2, sR_15_3, sR_15_4, sR_15_5, sR_15_6, sR_15_7, sR_15_8, sT_24, sT_25, sT_26, sT_27, sT_28, sT_29, sR_24_1, sR_24_2, sR_24_3, sR_24_4, sR_24_5, sT_71, sT_72, sR_71_0, sR_71_1, sR_71_2, sR_71_3, sR_71_4, sT_73, sT_74, sT_75, sR_73_0, sR_73_1, sR_73_2, sR_73_3, sR_73_4, sR_73_5, sT_84, sT_85, sT_86, sT_87, sR_84_0, sR_84_1, sR_84_2, sR_84_3, sR_84_4, sR_84_5, sT_88, sT_89, sR_88_0, sT_90, sT_91, sR_90_0, t77, hz, hl0, e1, t1, k7, hsub, nI_0, hL, so1, so2, so3, hin, gs]
  | some i =>
    rw [hq] at hL
    simp only at hL
    simp only [Option.isNone_some, Bool.false_eq_true, if_false]
    rw [oI_n]
    generalize σ at' = V at *
    generalize (sAllR A).length = LL at *
    cases u with
    | true =>
      simp only [if_true] at hAT hL ⊢
      subst hAT
      simp only [nI_0] at hL gs hin
      simp (disch := first | assumption | omega) [f_St_extreme, body_St_extreme, j_meth, j_out, j_rok, j_pad, lg_sl, s_seq_w, isN_inl, isN_inr, s_if, jb, x_c, x_iloc, x_aloc, x_lloc, x_bin, x_un, o_add, o_sub, o_mul, o_and, o_or, o_xor, o_shl, o_shr, o_ushr, o_max, o_min, o_i2b, o_i2c, o_i2l, o_l2i, x_fld, j_fget, x_idx, j_aget, x_len, j_alen, x_ofb, x_ite, xs_nil, xs_cons, x_callv, x_calls, s_callv, s_calls, j_recv, j_ret, j_retv, b_cmp, b_and, b_or, b_not, b_ofi, b_ite, b_true, s_skip, s_set, j_ty, j_lset, j_kill, s_inc, s_fput, j_fput, s_fop, s_aput, j_aput, j_nar, s_aop, s_ret, s_retv, s_go, s_pop, x_linc, x_finc, Value.category, if_icmp.holds, List.flatMap_cons, List.flatMap_nil, List.length_cons, List.length_append, List.length_nil, List.set_cons_succ, List.set_cons_zero, List.getElem?_cons_succ, List.getElem?_cons_zero, List.replicate, ite_and', ite_or', ite_int', nI_leI, nI_ltI, nI_eq, nI_add, nI_1, pk_mul, nI_clamp, n_in', nI_pos', nI_pos, n_m1e, n_01, n_10, sT_1, sR_1_0, sR_1_1, sR_1_2, sR_1_3, sR_1_4, sR_1_5, sR_1_6, sR_1_7, sR_1_8, sR_1_9, sT_2, sT_3, sT_4, sT_5, sT_6, sT_7, sT_8, sT_9, sT_10, sT_11, sT_12, sT_13, sT_14, sR_2_1, sR_2_2, sR_2_3, sR_2_4, sR_2_5, sR_2_6, sR_2_7, sR_2_8, sR_2_9, sR_2_10, sR_2_11, sR_2_12, sT_15, sT_16, sT_17, sT_18, sT_19, sT_20, sT_21, sT_22, sT_23, sR_15_1, sR_15_2, sR_15_3, sR_15_4, sR_15_5, sR_15_6, sR_15_7, sR_15_8, sT_24, sT_25, sT_26, sT_27, sT_28, sT_29, sR_24_1, sR_24_2, sR_24_3, sR_24_4, sR_24_5, sT_71, sT_72, sR_71_0, sR_71_1, sR_71_2, sR_71_3, sR_71_4, sT_73, sT_74, sT_75, sR_73_0, sR_73_1, sR_73_2, sR_73_3, sR_73_4, sR_73_5, sT_84, sT_85, sT_86, sT_87, sR_84_0, sR_84_1, sR_84_2, sR_84_3, sR_84_4, sR_84_5, sT_88, sT_89, sR_88_0, sT_90, sT_91, sR_90_0, t77, hz, hl0, e1, h10, nI_0, hL]
    | false =>
      simp only [Bool.false_eq_true, if_false] at hAT hL ⊢
      rw [hAT] at hsub
      simp only [nI_0] at hL
      simp (disch := first | assumption | omega) [f_St_extreme, body_St_extreme, j_meth, j_out, j_rok, j_pad, lg_sl, s_seq_w, isN_inl, isN_inr, s_if, jb, x_c, x_iloc, x_aloc, x_lloc, x_bin, x_un, o_add, o_sub, o_mul, o_and, o_or, o_xor, o_shl, o_shr, o_ushr, o_max, o_min, o_i2b, o_i2c, o_i2l, o_l2i, x_fld, j_fget, x_idx, j_aget, x_len, j_alen, x_ofb, x_ite, xs_nil, xs_cons, x_callv, x_calls, s_callv, s_calls, j_recv, j_ret, j_retv, b_cmp, b_and, b_or, b_not, b_ofi, b_ite, b_true, s_skip, s_set, j_ty, j_lset, j_kill, s_inc, s_fput, j_fput, s_fop, s_aput, j_aput, j_nar, s_aop, s_ret, s_retv, s_go, s_pop, x_linc, x_finc, Value.category, if_icmp.holds, List.flatMap_cons, List.flatMap_nil, List.length_cons, List.length_append, List.length_nil, List.set_cons_succ, List.set_cons_zero, List.getElem?_cons_succ, List.getElem?_cons_zero, List.replicate, ite_and', ite_or', ite_int', nI_leI, nI_ltI, nI_eq, nI_add, nI_1, pk_mul, nI_clamp, n_in', nI_pos', nI_pos, n_m1e, n_01, n_10, sT_1, sR_1_0, sR_1_1, sR_1_2, sR_1_3, sR_1_4, sR_1_5, sR_1_6, sR_1_7, sR_1_8, sR_1_9, sT_2, sT_3, sT_4, sT_5, sT_6, sT_7, sT_8, sT_9, sT_10, sT_11, sT_12, sT_13, sT_14, sR_2_1, sR_2_2, sR_2_3, sR_2_4, sR_2_5, sR_2_6, sR_2_7, sR_2_8, sR_2_9, sR_2_10, sR_2_11, sR_2_12, sT_15, sT_16, sT_17, sT_18, sT_19, sT_20, sT_21, sT_22, sT_23, sR_15_1, sR_15_2, sR_15_3, sR_15_4, sR_15_5, sR_15_6, sR_15_7, sR_15_8, sT_24, sT_25, sT_26, sT_27, sT_28, sT_29, sR_24_1, sR_24_2, sR_24_3, sR_24_4, sR_24_5, sT_71, sT_72, sR_71_0, sR_71_1, sR_71_2, sR_71_3, sR_71_4, sT_73, sT_74, sT_75, sR_73_0, sR_73_1, sR_73_2, sR_73_3, sR_73_4, sR_73_5, sT_84, sT_85, sT_86, sT_87, sR_84_0, sR_84_1, sR_84_2, sR_84_3, sR_84_4, sR_84_5, sT_88, sT_89, sR_88_0, sT_90, sT_91, sR_90_0, t77, hz, hl0, e1, t1, k7, hsub, nI_0, hL]
theorem o_S_best {A : AS} {tx : List Nat} {rw : List Int32} {h : jHp} (r : RC A tx rw h) (x : Int32) : ∃ h', f_S_best [.ref 1, .int x] h = some (some (.int (vBest A x)), h') ∧ RC A tx rw h' ∧ FC h h' := by
  have hs := r.1.1.1
  have w := r.1.1.2.1
  have hlen := sAllR_len w
  unfold vBest
  by_cases hx : x = nI 0 ∨ x = nI 1
  case neg =>
    rw [if_neg hx]
    refine ⟨h, ?_, r, FC_refl h⟩
    have hc : x < 0 ∨ nI 1 < x := by
      rcases n_of x with ⟨n, hn, rfl⟩ | h0
      · right
        rw [nI_ltI (by omega) hn]
        apply Nat.lt_of_not_le
        intro q
        apply hx
        have : n = 0 ∨ n = 1 := by omega
        rcases this with e | e
        · exact Or.inl (by rw [e])
        · exact Or.inr (by rw [e])
      · exact Or.inl h0
    by_cases h0 : x < 0
    · simp (disch := first | assumption | omega) [f_S_best, body_S_best, j_meth, j_out, j_rok, j_pad, lg_sl, s_seq_w, isN_inl, isN_inr, s_if, jb, x_c, x_iloc, x_aloc, x_lloc, x_bin, x_un, o_add, o_sub, o_mul, o_and, o_or, o_xor, o_shl, o_shr, o_ushr, o_max, o_min, o_i2b, o_i2c, o_i2l, o_l2i, x_fld, j_fget, x_idx, j_aget, x_len, j_alen, x_ofb, x_ite, xs_nil, xs_cons, x_callv, x_calls, s_callv, s_calls, j_recv, j_ret, j_retv, b_cmp, b_and, b_or, b_not, b_ofi, b_ite, b_true, s_skip, s_set, j_ty, j_lset, j_kill, s_inc, s_fput, j_fput, s_fop, s_aput, j_aput, j_nar, s_aop, s_ret, s_retv, s_go, s_pop, x_linc, x_finc, Value.category, if_icmp.holds, List.flatMap_cons, List.flatMap_nil, List.length_cons, List.length_append, List.length_nil, List.set_cons_succ, List.set_cons_zero, List.getElem?_cons_succ, List.getElem?_cons_zero, List.replicate, ite_and', ite_or', ite_int', nI_leI, nI_ltI, nI_eq, nI_add, nI_1, pk_mul, nI_clamp, n_in', nI_pos', nI_pos, n_m1e, n_01, n_10, sT_1, sR_1_0, sR_1_1, sR_1_2, sR_1_3, sR_1_4, sR_1_5, sR_1_6, sR_1_7, sR_1_8, sR_1_9, sT_2, sT_3, sT_4, sT_5, sT_6, sT_7, sT_8, sT_9, sT_10, sT_11, sT_12, sT_13, sT_14, sR_2_1, sR_2_2, sR_2_3, sR_2_4, sR_2_5, sR_2_6, sR_2_7, sR_2_8, sR_2_9, sR_2_10, sR_2_11, sR_2_12, sT_15, sT_16, sT_17, sT_18, sT_19, sT_20, sT_21, sT_22, sT_23, sR_15_1, sR_15_2, sR_15_3, sR_15_4, sR_15_5, sR_15_6, sR_15_7, sR_15_8, sT_24, sT_25, sT_26, sT_27, sT_28, sT_29, sR_24_1, sR_24_2, sR_24_3, sR_24_4, sR_24_5, sT_71, sT_72, sR_71_0, sR_71_1, sR_71_2, sR_71_3, sR_71_4, sT_73, sT_74, sT_75, sR_73_0, sR_73_1, sR_73_2, sR_73_3, sR_73_4, sR_73_5, sT_84, sT_85, sT_86, sT_87, sR_84_0, sR_84_1, sR_84_2, sR_84_3, sR_84_4, sR_84_5, sT_88, sT_89, sR_88_0, sT_90, sT_91, sR_90_0, h0]
    · have h1 := hc.resolve_left h0
      simp (disch := first | assumption | omega) [f_S_best, body_S_best, j_meth, j_out, j_rok, j_pad, lg_sl, s_seq_w, isN_inl, isN_inr, s_if, jb, x_c, x_iloc, x_aloc, x_lloc, x_bin, x_un, o_add, o_sub, o_mul, o_and, o_or, o_xor, o_shl, o_shr, o_ushr, o_max, o_min, o_i2b, o_i2c, o_i2l, o_l2i, x_fld, j_fget, x_idx, j_aget, x_len, j_alen, x_ofb, x_ite, xs_nil, xs_cons, x_callv, x_calls, s_callv, s_calls, j_recv, j_ret, j_retv, b_cmp, b_and, b_or, b_not, b_ofi, b_ite, b_true, s_skip, s_set, j_ty, j_lset, j_kill, s_inc, s_fput, j_fput, s_fop, s_aput, j_aput, j_nar, s_aop, s_ret, s_retv, s_go, s_pop, x_linc, x_finc, Value.category, if_icmp.holds, List.flatMap_cons, List.flatMap_nil, List.length_cons, List.length_append, List.length_nil, List.set_cons_succ, List.set_cons_zero, List.getElem?_cons_succ, List.getElem?_cons_zero, List.replicate, ite_and', ite_or', ite_int', nI_leI, nI_ltI, nI_eq, nI_add, nI_1, pk_mul, nI_clamp, n_in', nI_pos', nI_pos, n_m1e, n_01, n_10, sT_1, sR_1_0, sR_1_1, sR_1_2, sR_1_3, sR_1_4, sR_1_5, sR_1_6, sR_1_7, sR_1_8, sR_1_9, sT_2, sT_3, sT_4, sT_5, sT_6, sT_7, sT_8, sT_9, sT_10, sT_11, sT_12, sT_13, sT_14, sR_2_1, sR_2_2, sR_2_3, sR_2_4, sR_2_5, sR_2_6, sR_2_7, sR_2_8, sR_2_9, sR_2_10, sR_2_11, sR_2_12, sT_15, sT_16, sT_17, sT_18, sT_19, sT_20, sT_21, sT_22, sT_23, sR_15_1, sR_15_2, sR_15_3, sR_15_4, sR_15_5, sR_15_6, sR_15_7, sR_15_8, sT_24, sT_25, sT_26, sT_27, sT_28, sT_29, sR_24_1, sR_24_2, sR_24_3, sR_24_4, sR_24_5, sT_71, sT_72, sR_71_0, sR_71_1, sR_71_2, sR_71_3, sR_71_4, sT_73, sT_74, sT_75, sR_73_0, sR_73_1, sR_73_2, sR_73_3, sR_73_4, sR_73_5, sT_84, sT_85, sT_86, sT_87, sR_84_0, sR_84_1, sR_84_2, sR_84_3, sR_84_4, sR_84_5, sT_88, sT_89, sR_88_0, sT_90, sT_91, sR_90_0, h0, h1]
  rw [if_pos hx]
  obtain ⟨h1, e1, r1, fc1, kn1⟩ := e_St_know r
  have hs1 := r1.1.1.1
  obtain ⟨h2, e2, r2, fc2, kn2⟩ := e_St_extreme r1 kn1 (decide (x = nI 0))
  have hs2 := r2.1.1.1
  refine ⟨h2, ?_, r2, FC_trans fc1 fc2⟩
  obtain ⟨fa, fl, kf2⟩ := KNW_KF kn2
  obtain ⟨⟨k1, k2, k3, -⟩, k5, k6, k7, k8⟩ := kf2
  have t2 := sT_77 hs2
  have c1 : ¬ x < 0 := by rcases hx with rfl | rfl <;> decide
  have c2 : ¬ nI 1 < x := by rcases hx with rfl | rfl <;> decide
  have hxx : (x = 0) = (decide (x = nI 0) = true) := by simp [nI_0]
  have he : ∀ k, sBst A (sAllR A) (decide (x = nI 0)) = some k → k < (sAllR A).length := fun k hk => fst1_lt hk
  clear kn1 kn2 r r1 r2 fc1 fc2
  cases hB : sBst A (sAllR A) (decide (x = nI 0)) with
  | none =>
    rw [hB, oI_n] at e2
    clear k8
    generalize decide (x = nI 0) = u at *
    cases u <;> simp at hxx e2 <;> simp (disch := first | assumption | omega) [f_S_best, body_S_best, j_meth, j_out, j_rok, j_pad, lg_sl, s_seq_w, isN_inl, isN_inr, s_if, jb, x_c, x_iloc, x_aloc, x_lloc, x_bin, x_un, o_add, o_sub, o_mul, o_and, o_or, o_xor, o_shl, o_shr, o_ushr, o_max, o_min, o_i2b, o_i2c, o_i2l, o_l2i, x_fld, j_fget, x_idx, j_aget, x_len, j_alen, x_ofb, x_ite, xs_nil, xs_cons, x_callv, x_calls, s_callv, s_calls, j_recv, j_ret, j_retv, b_cmp, b_and, b_or, b_not, b_ofi, b_ite, b_true, s_skip, s_set, j_ty, j_lset, j_kill, s_inc, s_fput, j_fput, s_fop, s_aput, j_aput, j_nar, s_aop, s_ret, s_retv, s_go, s_pop, x_linc, x_finc, Value.category, if_icmp.holds, List.flatMap_cons, List.flatMap_nil, List.length_cons, List.length_append, List.length_nil, List.set_cons_succ, List.set_cons_zero, List.getElem?_cons_succ, List.getElem?_cons_zero, List.replicate, ite_and', ite_or', ite_int', nI_leI, nI_ltI, nI_eq, nI_add, nI_1, pk_mul, nI_clamp, n_in', nI_pos', nI_pos, n_m1e, n_01, n_10, sT_1, sR_1_0, sR_1_1, sR_1_2, sR_1_3, sR_1_4, sR_1_5, sR_1_6, sR_1_7, sR_1_8, sR_1_9, sT_2, sT_3, sT_4, sT_5, sT_6, sT_7, sT_8, sT_9, sT_10, sT_11, sT_12, sT_13, sT_14, sR_2_1, sR_2_2, sR_2_3, sR_2_4, sR_2_5, sR_2_6, sR_2_7, sR_2_8, sR_2_9, sR_2_10, sR_2_11, sR_2_12, sT_15, sT_16, sT_17, sT_18, sT_19, sT_20, sT_21, sT_22, sT_23, sR_15_1, sR_15_2, sR_15_3, sR_15_4, sR_15_5, sR_15_6, sR_15_7, sR_15_8, sT_24, sT_25, sT_26, sT_27, sT_28, sT_29, sR_24_1, sR_24_2, sR_24_3, sR_24_4, sR_24_5, sT_71, sT_72, sR_71_0, sR_71_1, sR_71_2, sR_71_3, sR_71_4, sT_73, sT_74, sT_75, sR_73_0, sR_73_1, sR_73_2, sR_73_3, sR_73_4, sR_73_5, sT_84, sT_85, sT_86, sT_87, sR_84_0, sR_84_1, sR_84_2, sR_84_3, sR_84_4, sR_84_5, sT_88, sT_89, sR_88_0, sT_90, sT_91, sR_90_0, c1, c2, e1, sT_77, hxx, e2]
  | some k =>
    have hk := he k hB
    rw [hB, oI_s] at e2
    have g := k8 k hk
    have hin : j_in (nI k) fl = true := n_in' (by omega) (by omega)
    have hne : (nI k = -1) = False := n_m1e (by omega)
    clear k8 he
    show f_S_best [.ref 1, .int x] h = some (some (.int (nI ((sAllR A).getD k 0))), h2)
    generalize decide (x = nI 0) = u at *
    generalize (sAllR A).getD k 0 = V at *
    generalize (sAllR A).length = LL at *
    cases u <;> simp at hxx e2 <;> simp (disch := first | assumption | omega) [f_S_best, body_S_best, j_meth, j_out, j_rok, j_pad, lg_sl, s_seq_w, isN_inl, isN_inr, s_if, jb, x_c, x_iloc, x_aloc, x_lloc, x_bin, x_un, o_add, o_sub, o_mul, o_and, o_or, o_xor, o_shl, o_shr, o_ushr, o_max, o_min, o_i2b, o_i2c, o_i2l, o_l2i, x_fld, j_fget, x_idx, j_aget, x_len, j_alen, x_ofb, x_ite, xs_nil, xs_cons, x_callv, x_calls, s_callv, s_calls, j_recv, j_ret, j_retv, b_cmp, b_and, b_or, b_not, b_ofi, b_ite, b_true, s_skip, s_set, j_ty, j_lset, j_kill, s_inc, s_fput, j_fput, s_fop, s_aput, j_aput, j_nar, s_aop, s_ret, s_retv, s_go, s_pop, x_linc, x_finc, Value.category, if_icmp.holds, List.flatMap_cons, List.flatMap_nil, List.length_cons, List.length_append, List.length_nil, List.set_cons_succ, List.set_cons_zero, List.getElem?_cons_succ, List.getElem?_cons_zero, List.replicate, ite_and', ite_or', ite_int', nI_leI, nI_ltI, nI_eq, nI_add, nI_1, pk_mul, nI_clamp, n_in', nI_pos', nI_pos, n_m1e, n_01, n_10, sT_1, sR_1_0, sR_1_1, sR_1_2, sR_1_3, sR_1_4, sR_1_5, sR_1_6, sR_1_7, sR_1_8, sR_1_9, sT_2, sT_3, sT_4, sT_5, sT_6, sT_7, sT_8, sT_9, sT_10, sT_11, sT_12, sT_13, sT_14, sR_2_1, sR_2_2, sR_2_3, sR_2_4, sR_2_5, sR_2_6, sR_2_7, sR_2_8, sR_2_9, sR_2_10, sR_2_11, sR_2_12, sT_15, sT_16, sT_17, sT_18, sT_19, sT_20, sT_21, sT_22, sT_23, sR_15_1, sR_15_2, sR_15_3, sR_15_4, sR_15_5, sR_15_6, sR_15_7, sR_15_8, sT_24, sT_25, sT_26, sT_27, sT_28, sT_29, sR_24_1, sR_24_2, sR_24_3, sR_24_4, sR_24_5, sT_71, sT_72, sR_71_0, sR_71_1, sR_71_2, sR_71_3, sR_71_4, sT_73, sT_74, sT_75, sR_73_0, sR_73_1, sR_73_2, sR_73_3, sR_73_4, sR_73_5, sT_84, sT_85, sT_86, sT_87, sR_84_0, sR_84_1, sR_84_2, sR_84_3, sR_84_4, sR_84_5, sT_88, sT_89, sR_88_0, sT_90, sT_91, sR_90_0, c1, c2, e1, sT_77, hxx, e2, hne, k1, k2, k3, hin, g]
