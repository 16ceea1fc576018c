/-! what PEOPLE would rather have, as slots -/
theorem lsM_bit (A : AS) (j : Nat) : ∀ (l : List Nat) (m : Nat), (l.foldl (fun m b => m ||| 2 ^ sSlot A b) m).testBit j = true ↔ m.testBit j = true ∨ ∃ b ∈ l, sSlot A b = j := by
  intro l
  induction l with
  | nil => intro m; simp
  | cons b l ih =>
    intro m
    simp only [List.foldl_cons]
    rw [ih, Nat.testBit_or, Nat.testBit_two_pow, Bool.or_eq_true, decide_eq_true_iff]
    simp only [List.mem_cons]
    constructor
    · rintro ((h | h) | ⟨c, h1, h2⟩)
      · exact Or.inl h
      · exact Or.inr ⟨b, Or.inl rfl, h⟩
      · exact Or.inr ⟨c, Or.inr h1, h2⟩
    · rintro (h | ⟨c, h1 | h1, h2⟩)
      · exact Or.inl (Or.inl h)
      · subst h1; exact Or.inl (Or.inr h2)
      · exact Or.inr ⟨c, h1, h2⟩
theorem lsM_b (A : AS) (l : List Nat) (j : Nat) : (lsM A l).testBit j = true ↔ ∃ b ∈ l, sSlot A b = j := by
  unfold lsM
  rw [lsM_bit]
  simp
theorem mem_take {A : AS} (w : WF A) {p b r : Nat} : b ∈ (aLl A p).take r ↔ aPe A b = p ∧ ∃ i, sPlc A b = some i ∧ i < r := by
  constructor
  · intro h
    have hm := List.mem_of_mem_take h
    have hp := ((w.2.2.2.1 p).2.2.2 b hm).2
    refine ⟨hp, ?_⟩
    obtain ⟨i, hi, ei⟩ := List.mem_iff_getElem.mp h
    rw [List.length_take] at hi
    rw [List.getElem_take] at ei
    unfold sPlc
    rw [hp]
    cases hf : fst1 (fun k => (aLl A p).getD k 0 == b) (aLl A p).length with
    | none =>
      have := fst1_none hf i (by omega)
      rw [List.getD_eq_getElem?_getD, List.getElem?_eq_getElem (by omega), Option.getD_some, ei] at this
      simp at this
    | some k =>
      refine ⟨k, rfl, ?_⟩
      obtain ⟨k1, k2, k3⟩ := fst1_some hf
      cases Nat.lt_or_ge i k with
      | inl q =>
        have := k3 i q
        rw [List.getD_eq_getElem?_getD, List.getElem?_eq_getElem (by omega), Option.getD_some, ei] at this
        simp at this
      | inr q => omega
  · rintro ⟨hp, i, hi, hr⟩
    unfold sPlc at hi
    rw [hp] at hi
    obtain ⟨k1, k2, -⟩ := fst1_some hi
    have k2' := beq_iff_eq.mp k2
    rw [List.getD_eq_getElem?_getD, List.getElem?_eq_getElem k1, Option.getD_some] at k2'
    rw [← k2', List.mem_iff_getElem]
    exact ⟨i, by rw [List.length_take]; omega, by rw [List.getElem_take]⟩
/-- the slots that one PERSON would rather have -/
def wtS (A : AS) (S p : Nat) : Nat := if (sCpl A p).isNone then lsM A ((aLl A p).take ((sRnk A S p).getD 0)) else 0
def wtM (A : AS) (S : Nat) : Nat := nfo (fun p m => m ||| wtS A S p) (aNp A) 0
theorem nfo_or_bit (g : Nat → Nat) : ∀ n j, (nfo (fun p m => m ||| g p) n 0).testBit j = true ↔ ∃ p, p < n ∧ (g p).testBit j = true := by
  intro n
  induction n with
  | zero => intro j; simp [nfo]
  | succ n ih =>
    intro j
    simp only [nfo]
    rw [Nat.testBit_or, Bool.or_eq_true, ih]
    constructor
    · rintro (⟨p, h1, h2⟩ | h)
      · exact ⟨p, by omega, h2⟩
      · exact ⟨n, by omega, h⟩
    · rintro ⟨p, h1, h2⟩
      by_cases e : p = n
      · subst e; exact Or.inr h2
      · exact Or.inl ⟨p, by omega, h2⟩
theorem wtS_bit {A : AS} (w : WF A) {S p j : Nat} : (wtS A S p).testBit j = true ↔ sCpl A p = none ∧ ∃ b i r, aPe A b = p ∧ sSlot A b = j ∧ sPlc A b = some i ∧ (sRnk A S p).getD 0 = r ∧ i < r := by
  unfold wtS
  by_cases z : (sCpl A p).isNone = true
  · rw [if_pos z, lsM_b]
    have z' := Option.isNone_iff_eq_none.mp z
    constructor
    · rintro ⟨b, h1, h2⟩
      obtain ⟨a1, i, a2, a3⟩ := (mem_take w).mp h1
      exact ⟨z', b, i, _, a1, h2, a2, rfl, a3⟩
    · rintro ⟨-, b, i, r, a1, a2, a3, rfl, a4⟩
      exact ⟨b, (mem_take w).mpr ⟨a1, i, a3, a4⟩, a2⟩
  · rw [if_neg z]
    constructor
    · intro h; rw [Nat.zero_testBit] at h; cases h
    · rintro ⟨h, -⟩; rw [h] at z; exact absurd rfl z
theorem sPlc_in {A : AS} (w : WF A) {b i : Nat} (h : sPlc A b = some i) : b < aNb A := by
  unfold sPlc at h
  obtain ⟨h1, h2, -⟩ := fst1_some h
  have hm := getD_mem' (d := 0) h1
  rw [beq_iff_eq.mp h2] at hm
  exact ((w.2.2.2.1 (aPe A b)).2.2.2 b hm).1
theorem sWt_bit (A : AS) (S b : Nat) : (sWt A S).testBit b = true ↔ b < aNb A ∧ sCpl A (aPe A b) = none ∧ ltO (sPlc A b) (sRnk A S (aPe A b)) = true := by
  unfold sWt
  refine (or_bits (fun b => (sCpl A (aPe A b)).isNone && ltO (sPlc A b) (sRnk A S (aPe A b))) (fun b => b) (aNb A) b).trans ?_
  constructor
  · rintro ⟨k, h1, h2, rfl⟩
    rw [Bool.and_eq_true] at h2
    exact ⟨h1, Option.isNone_iff_eq_none.mp h2.1, h2.2⟩
  · rintro ⟨h1, h2, h3⟩
    exact ⟨b, h1, by rw [h2, h3]; rfl, rfl⟩
theorem sF1_iff {A : AS} {S : Nat} : (sF1 A S).isNone = true ↔ ∀ p, p < aNp A → sCpl A p = none → sRnk A S p ≠ none := by
  unfold sF1
  rw [fst1_all]
  constructor
  · intro h p hp h1 h2
    have := h p hp
    rw [h1, h2] at this
    exact absurd this (by decide)
  · intro h p hp
    cases h1 : sCpl A p with
    | some c => rfl
    | none =>
      cases h2 : sRnk A S p with
      | some r => rfl
      | none => exact absurd h2 (h p hp h1)
theorem wtM_ok {A : AS} (w : WF A) {S : Nat} (hf : (sF1 A S).isNone = true) : wtM A S = slM A (sWt A S) := by
  have hf' := sF1_iff.mp hf
  apply Nat.eq_of_testBit_eq
  intro j
  rw [Bool.eq_iff_iff]
  unfold wtM
  rw [nfo_or_bit]
  have hs := slM_bit A (sWt A S) (aNb A) j
  unfold slM
  rw [hs]
  constructor
  · rintro ⟨p, hp, h⟩
    obtain ⟨h1, b, i, r, a1, a2, a3, a4, a5⟩ := (wtS_bit w).mp h
    have hb := sPlc_in w a3
    refine ⟨b, hb, (sWt_bit A S b).mpr ⟨hb, by rw [a1]; exact h1, ?_⟩, a2⟩
    rw [a3, a1]
    cases hr : sRnk A S p with
    | none => exact absurd hr (hf' p hp h1)
    | some r' =>
      rw [hr, Option.getD_some] at a4
      simp only [ltO, decide_eq_true_eq]
      omega
  · rintro ⟨b, hb, h1, h2⟩
    obtain ⟨-, a1, a2⟩ := (sWt_bit A S b).mp h1
    refine ⟨aPe A b, (w.2.2.1.2.1 b hb).1, (wtS_bit w).mpr ⟨a1, ?_⟩⟩
    cases hpl : sPlc A b with
    | none => rw [hpl] at a2; cases hr : sRnk A S (aPe A b) <;> rw [hr] at a2 <;> cases a2
    | some i =>
      cases hr : sRnk A S (aPe A b) with
      | none => rw [hpl, hr] at a2; cases a2
      | some r =>
        rw [hpl, hr] at a2
        simp only [ltO, decide_eq_true_eq] at a2
        exact ⟨b, i, r, rfl, h2, hpl, rfl, a2⟩
theorem lsM_lt {A : AS} (w : WF A) {p r : Nat} : lsM A ((aLl A p).take r) < 2 ^ 32 := lt_of_bits fun i hi => by
  obtain ⟨b, h1, h2⟩ := (lsM_b A _ i).mp hi
  have hb := ((w.2.2.2.1 p).2.2.2 b (List.mem_of_mem_take h1)).1
  have := sSlot_lt w hb
  omega
theorem wtS_lt {A : AS} (w : WF A) (S p : Nat) : wtS A S p < 2 ^ 32 := by
  unfold wtS
  split
  · exact lsM_lt w
  · decide
theorem e_Ma_wanted {A : AS} {h : jHp} (x : MK A h) {S : Nat} (hS : S < 2 ^ aNb A) (hm : sMat A S) (hf : (sF1 A S).isNone = true) : f_Ma_wanted [.ref 71, .int (nI S)] h = some (some (.int (nI (slM A (sWt A S)))), h) := by
  have w := x.1.2.1
  rw [← wtM_ok w hf]
  have hs := x.1.1
  have cb := x.1.2.2.1
  have cp := x.1.2.2.2
  have hn := w.1.1
  have h20 := w.2.2.1.1
  have hp20 := p20 w
  have c0 := cp.1
  have hf' := sF1_iff.mp hf
  have hL := loop_wp (lb := 1) (lc := 2) (c := lc_Ma_wanted_1) (b := lb_Ma_wanted_1) (u := lu_Ma_wanted_1) (aNp A)
    (fun p st => ∃ v, st = ([.ref 71, .int (nI S), .int (nI (nfo (fun p m => m ||| wtS A S p) p 0)), .int (nI p), v], h))
    (fun r => ∃ v, r = (.inl 0, ([.ref 71, .int (nI S), .int (nI (nfo (fun p m => m ||| wtS A S p) (aNp A) 0)), .int (nI (aNp A)), v], h)))
    ?_ ?_ ([.ref 71, .int (nI S), .int (nI 0), .int (nI 0), .null], h) ⟨_, rfl⟩
  · obtain ⟨r, e, v, rfl⟩ := hL
    unfold wtM
    generalize nfo (fun p m => m ||| wtS A S p) (aNp A) 0 = R at *
    simp only [nI_0] at e
    simp (disch := first | assumption | omega) [f_Ma_wanted, body_Ma_wanted, j_meth, j_out, j_rok, j_pad, lg_sl, s_seq_w, isN_inl, isN_inr, s_if, jb, x_c, x_iloc, x_aloc, x_lloc, x_bin, x_un, o_add, o_sub, o_mul, o_and, o_or, o_xor, o_shl, o_shr, o_ushr, o_max, o_min, o_i2b, o_i2c, o_i2l, o_l2i, x_fld, j_fget, x_idx, j_aget, x_len, j_alen, x_ofb, x_ite, xs_nil, xs_cons, x_callv, x_calls, s_callv, s_calls, j_recv, j_ret, j_retv, b_cmp, b_and, b_or, b_not, b_ofi, b_ite, b_true, s_skip, s_set, j_ty, j_lset, j_kill, s_inc, s_fput, j_fput, s_fop, s_aput, j_aput, j_nar, s_aop, s_ret, s_retv, s_go, s_pop, x_linc, x_finc, Value.category, if_icmp.holds, List.flatMap_cons, List.flatMap_nil, List.length_cons, List.length_append, List.length_nil, List.set_cons_succ, List.set_cons_zero, List.getElem?_cons_succ, List.getElem?_cons_zero, List.replicate, ite_and', ite_or', ite_int', nI_leI, nI_ltI, nI_eq, nI_add, nI_1, pk_mul, nI_clamp, n_in', nI_pos', nI_pos, n_m1e, n_01, n_10, sT_1, sR_1_0, sR_1_1, sR_1_2, sR_1_3, sR_1_4, sR_1_5, sR_1_6, sR_1_7, sR_1_8, sR_1_9, sT_2, sT_3, sT_4, sT_5, sT_6, sT_7, sT_8, sT_9, sT_10, sT_11, sT_12, sT_13, sT_14, sR_2_1, sR_2_2, sR_2_3, sR_2_4, sR_2_5, sR_2_6, sR_2_7, sR_2_8, sR_2_9, sR_2_10, sR_2_11, sR_2_12, sT_15, sT_16, sT_17, sT_18, sT_19, sT_20, sT_21, sT_22, sT_23, sR_15_1, sR_15_2, sR_15_3, sR_15_4, sR_15_5, sR_15_6, sR_15_7, sR_15_8, sT_24, sT_25, sT_26, sT_27, sT_28, sT_29, sR_24_1, sR_24_2, sR_24_3, sR_24_4, sR_24_5, sT_71, sT_72, sR_71_0, sR_71_1, sR_71_2, sR_71_3, sR_71_4, sT_73, sT_74, sT_75, sR_73_0, sR_73_1, sR_73_2, sR_73_3, sR_73_4, sR_73_5, sT_84, sT_85, sT_86, sT_87, sR_84_0, sR_84_1, sR_84_2, sR_84_3, sR_84_4, sR_84_5, sT_88, sT_89, sR_88_0, sT_90, sT_91, sR_90_0, nI_0, e]
  · rintro p st hp ⟨v, rfl⟩
    left
    have es := e_P_isSingle hs w cp (nI p)
    rw [n_in (by omega), nI_clamp (by omega), decide_eq_true hp] at es
    have hst : nfo (fun p m => m ||| wtS A S p) (p + 1) 0 = nfo (fun p m => m ||| wtS A S p) p 0 ||| wtS A S p := rfl
    rw [hst]
    generalize nfo (fun p m => m ||| wtS A S p) p 0 = M at *
    have s1 := (cb.2.2.2 p (by omega)).2.1
    have hmi := mine_ok hm p
    have c21 := (cp.2.2.2.1 p (by omega)).2.2.1
    have hr := hf' p hp
    unfold wtS
    by_cases z : sCpl A p = none
    · have h10 : ((1 : Int32) = 0) = False := by decide
      rw [if_pos ⟨rfl, z⟩] at es
      rw [z]
      simp only [Option.isNone_none, if_true]
      have hr' := hr z
      unfold sRnk at hr' ⊢
      cases hb : sBnd A S p with
      | none =>
        rw [hb] at hmi
        simp only [oM] at hmi
        simp only [Option.getD_some, List.take_length]
        refine ⟨([.ref 71, .int (nI S), .int (nI (M ||| lsM A (aLl A p))), .int (nI (p + 1)), .int (nI 0)], h), ?_, _, rfl⟩
        simp (disch := first | assumption | omega) [lstp, lc_Ma_wanted_1, lb_Ma_wanted_1, lu_Ma_wanted_1, j_meth, j_out, j_rok, j_pad, lg_sl, s_seq_w, isN_inl, isN_inr, s_if, jb, x_c, x_iloc, x_aloc, x_lloc, x_bin, x_un, o_add, o_sub, o_mul, o_and, o_or, o_xor, o_shl, o_shr, o_ushr, o_max, o_min, o_i2b, o_i2c, o_i2l, o_l2i, x_fld, j_fget, x_idx, j_aget, x_len, j_alen, x_ofb, x_ite, xs_nil, xs_cons, x_callv, x_calls, s_callv, s_calls, j_recv, j_ret, j_retv, b_cmp, b_and, b_or, b_not, b_ofi, b_ite, b_true, s_skip, s_set, j_ty, j_lset, j_kill, s_inc, s_fput, j_fput, s_fop, s_aput, j_aput, j_nar, s_aop, s_ret, s_retv, s_go, s_pop, x_linc, x_finc, Value.category, if_icmp.holds, List.flatMap_cons, List.flatMap_nil, List.length_cons, List.length_append, List.length_nil, List.set_cons_succ, List.set_cons_zero, List.getElem?_cons_succ, List.getElem?_cons_zero, List.replicate, ite_and', ite_or', ite_int', nI_leI, nI_ltI, nI_eq, nI_add, nI_1, pk_mul, nI_clamp, n_in', nI_pos', nI_pos, n_m1e, n_01, n_10, sT_1, sR_1_0, sR_1_1, sR_1_2, sR_1_3, sR_1_4, sR_1_5, sR_1_6, sR_1_7, sR_1_8, sR_1_9, sT_2, sT_3, sT_4, sT_5, sT_6, sT_7, sT_8, sT_9, sT_10, sT_11, sT_12, sT_13, sT_14, sR_2_1, sR_2_2, sR_2_3, sR_2_4, sR_2_5, sR_2_6, sR_2_7, sR_2_8, sR_2_9, sR_2_10, sR_2_11, sR_2_12, sT_15, sT_16, sT_17, sT_18, sT_19, sT_20, sT_21, sT_22, sT_23, sR_15_1, sR_15_2, sR_15_3, sR_15_4, sR_15_5, sR_15_6, sR_15_7, sR_15_8, sT_24, sT_25, sT_26, sT_27, sT_28, sT_29, sR_24_1, sR_24_2, sR_24_3, sR_24_4, sR_24_5, sT_71, sT_72, sR_71_0, sR_71_1, sR_71_2, sR_71_3, sR_71_4, sT_73, sT_74, sT_75, sR_73_0, sR_73_1, sR_73_2, sR_73_3, sR_73_4, sR_73_5, sT_84, sT_85, sT_86, sT_87, sR_84_0, sR_84_1, sR_84_2, sR_84_3, sR_84_4, sR_84_5, sT_88, sT_89, sR_88_0, sT_90, sT_91, sR_90_0, c0, hp, es, h10, s1, n_and, hmi, nI_0, c21, n_or]
      | some b =>
        rw [hb] at hmi hr'
        simp only [oM] at hmi
        simp only at hr'
        have hbl := sBnd_lt w hb
        have hbp := ((sBnd_iff hm).mp hb).2.2
        have en := e_J_ntz h (x := 2 ^ b) (Nat.pow_lt_pow_right (by decide) (by omega)) (by have := Nat.two_pow_pos b; omega)
        rw [lowN_pow b (by omega)] at en
        have hne : (nI (2 ^ b) = 0) = False := by
          have hp := Nat.two_pow_pos b
          have h7 : 2 ^ b < 2 ^ 20 := Nat.pow_lt_pow_right (by decide) (by omega)
          exact eq_false fun e => by
            have := (n_eq0 (by omega)).mp e
            omega
        cases hpl : sPlc A b with
        | none => exact absurd hpl hr'
        | some k =>
          have c23 := cp.2.2.2.2.2 b k hbl hpl
          rw [hbp] at c23
          simp only [hpl, Option.getD_some]
          refine ⟨([.ref 71, .int (nI S), .int (nI (M ||| lsM A ((aLl A p).take k))), .int (nI (p + 1)), .int (nI (2 ^ b))], h), ?_, _, rfl⟩
          generalize lsM A ((aLl A p).take k) = LL at *
          generalize 2 ^ b = bb at *
          simp (disch := first | assumption | omega) [lstp, lc_Ma_wanted_1, lb_Ma_wanted_1, lu_Ma_wanted_1, j_meth, j_out, j_rok, j_pad, lg_sl, s_seq_w, isN_inl, isN_inr, s_if, jb, x_c, x_iloc, x_aloc, x_lloc, x_bin, x_un, o_add, o_sub, o_mul, o_and, o_or, o_xor, o_shl, o_shr, o_ushr, o_max, o_min, o_i2b, o_i2c, o_i2l, o_l2i, x_fld, j_fget, x_idx, j_aget, x_len, j_alen, x_ofb, x_ite, xs_nil, xs_cons, x_callv, x_calls, s_callv, s_calls, j_recv, j_ret, j_retv, b_cmp, b_and, b_or, b_not, b_ofi, b_ite, b_true, s_skip, s_set, j_ty, j_lset, j_kill, s_inc, s_fput, j_fput, s_fop, s_aput, j_aput, j_nar, s_aop, s_ret, s_retv, s_go, s_pop, x_linc, x_finc, Value.category, if_icmp.holds, List.flatMap_cons, List.flatMap_nil, List.length_cons, List.length_append, List.length_nil, List.set_cons_succ, List.set_cons_zero, List.getElem?_cons_succ, List.getElem?_cons_zero, List.replicate, ite_and', ite_or', ite_int', nI_leI, nI_ltI, nI_eq, nI_add, nI_1, pk_mul, nI_clamp, n_in', nI_pos', nI_pos, n_m1e, n_01, n_10, sT_1, sR_1_0, sR_1_1, sR_1_2, sR_1_3, sR_1_4, sR_1_5, sR_1_6, sR_1_7, sR_1_8, sR_1_9, sT_2, sT_3, sT_4, sT_5, sT_6, sT_7, sT_8, sT_9, sT_10, sT_11, sT_12, sT_13, sT_14, sR_2_1, sR_2_2, sR_2_3, sR_2_4, sR_2_5, sR_2_6, sR_2_7, sR_2_8, sR_2_9, sR_2_10, sR_2_11, sR_2_12, sT_15, sT_16, sT_17, sT_18, sT_19, sT_20, sT_21, sT_22, sT_23, sR_15_1, sR_15_2, sR_15_3, sR_15_4, sR_15_5, sR_15_6, sR_15_7, sR_15_8, sT_24, sT_25, sT_26, sT_27, sT_28, sT_29, sR_24_1, sR_24_2, sR_24_3, sR_24_4, sR_24_5, sT_71, sT_72, sR_71_0, sR_71_1, sR_71_2, sR_71_3, sR_71_4, sT_73, sT_74, sT_75, sR_73_0, sR_73_1, sR_73_2, sR_73_3, sR_73_4, sR_73_5, sT_84, sT_85, sT_86, sT_87, sR_84_0, sR_84_1, sR_84_2, sR_84_3, sR_84_4, sR_84_5, sT_88, sT_89, sR_88_0, sT_90, sT_91, sR_90_0, c0, hp, es, h10, s1, n_and, hmi, hne, en, c23, n_or]
    · rw [if_neg (fun q => z q.2)] at es
      have z' : (sCpl A p).isNone = false := by
        cases q : sCpl A p with
        | none => exact absurd q z
        | some c => rfl
      rw [z']
      refine ⟨([.ref 71, .int (nI S), .int (nI M), .int (nI (p + 1)), v], h), ?_, v, ?_⟩
      · simp (disch := first | assumption | omega) [lstp, lc_Ma_wanted_1, lb_Ma_wanted_1, lu_Ma_wanted_1, j_meth, j_out, j_rok, j_pad, lg_sl, s_seq_w, isN_inl, isN_inr, s_if, jb, x_c, x_iloc, x_aloc, x_lloc, x_bin, x_un, o_add, o_sub, o_mul, o_and, o_or, o_xor, o_shl, o_shr, o_ushr, o_max, o_min, o_i2b, o_i2c, o_i2l, o_l2i, x_fld, j_fget, x_idx, j_aget, x_len, j_alen, x_ofb, x_ite, xs_nil, xs_cons, x_callv, x_calls, s_callv, s_calls, j_recv, j_ret, j_retv, b_cmp, b_and, b_or, b_not, b_ofi, b_ite, b_true, s_skip, s_set, j_ty, j_lset, j_kill, s_inc, s_fput, j_fput, s_fop, s_aput, j_aput, j_nar, s_aop, s_ret, s_retv, s_go, s_pop, x_linc, x_finc, Value.category, if_icmp.holds, List.flatMap_cons, List.flatMap_nil, List.length_cons, List.length_append, List.length_nil, List.set_cons_succ, List.set_cons_zero, List.getElem?_cons_succ, List.getElem?_cons_zero, List.replicate, ite_and', ite_or', ite_int', nI_leI, nI_ltI, nI_eq, nI_add, nI_1, pk_mul, nI_clamp, n_in', nI_pos', nI_pos, n_m1e, n_01, n_10, sT_1, sR_1_0, sR_1_1, sR_1_2, sR_1_3, sR_1_4, sR_1_5, sR_1_6, sR_1_7, sR_1_8, sR_1_9, sT_2, sT_3, sT_4, sT_5, sT_6, sT_7, sT_8, sT_9, sT_10, sT_11, sT_12, sT_13, sT_14, sR_2_1, sR_2_2, sR_2_3, sR_2_4, sR_2_5, sR_2_6, sR_2_7, sR_2_8, sR_2_9, sR_2_10, sR_2_11, sR_2_12, sT_15, sT_16, sT_17, sT_18, sT_19, sT_20, sT_21, sT_22, sT_23, sR_15_1, sR_15_2, sR_15_3, sR_15_4, sR_15_5, sR_15_6, sR_15_7, sR_15_8, sT_24, sT_25, sT_26, sT_27, sT_28, sT_29, sR_24_1, sR_24_2, sR_24_3, sR_24_4, sR_24_5, sT_71, sT_72, sR_71_0, sR_71_1, sR_71_2, sR_71_3, sR_71_4, sT_73, sT_74, sT_75, sR_73_0, sR_73_1, sR_73_2, sR_73_3, sR_73_4, sR_73_5, sT_84, sT_85, sT_86, sT_87, sR_84_0, sR_84_1, sR_84_2, sR_84_3, sR_84_4, sR_84_5, sT_88, sT_89, sR_88_0, sT_90, sT_91, sR_90_0, c0, hp, es]
      · simp
  · rintro st ⟨v, rfl⟩
    refine ⟨_, ?_, v, rfl⟩
    simp (disch := first | assumption | omega) [lstp, lc_Ma_wanted_1, lb_Ma_wanted_1, lu_Ma_wanted_1, j_meth, j_out, j_rok, j_pad, lg_sl, s_seq_w, isN_inl, isN_inr, s_if, jb, x_c, x_iloc, x_aloc, x_lloc, x_bin, x_un, o_add, o_sub, o_mul, o_and, o_or, o_xor, o_shl, o_shr, o_ushr, o_max, o_min, o_i2b, o_i2c, o_i2l, o_l2i, x_fld, j_fget, x_idx, j_aget, x_len, j_alen, x_ofb, x_ite, xs_nil, xs_cons, x_callv, x_calls, s_callv, s_calls, j_recv, j_ret, j_retv, b_cmp, b_and, b_or, b_not, b_ofi, b_ite, b_true, s_skip, s_set, j_ty, j_lset, j_kill, s_inc, s_fput, j_fput, s_fop, s_aput, j_aput, j_nar, s_aop, s_ret, s_retv, s_go, s_pop, x_linc, x_finc, Value.category, if_icmp.holds, List.flatMap_cons, List.flatMap_nil, List.length_cons, List.length_append, List.length_nil, List.set_cons_succ, List.set_cons_zero, List.getElem?_cons_succ, List.getElem?_cons_zero, List.replicate, ite_and', ite_or', ite_int', nI_leI, nI_ltI, nI_eq, nI_add, nI_1, pk_mul, nI_clamp, n_in', nI_pos', nI_pos, n_m1e, n_01, n_10, sT_1, sR_1_0, sR_1_1, sR_1_2, sR_1_3, sR_1_4, sR_1_5, sR_1_6, sR_1_7, sR_1_8, sR_1_9, sT_2, sT_3, sT_4, sT_5, sT_6, sT_7, sT_8, sT_9, sT_10, sT_11, sT_12, sT_13, sT_14, sR_2_1, sR_2_2, sR_2_3, sR_2_4, sR_2_5, sR_2_6, sR_2_7, sR_2_8, sR_2_9, sR_2_10, sR_2_11, sR_2_12, sT_15, sT_16, sT_17, sT_18, sT_19, sT_20, sT_21, sT_22, sT_23, sR_15_1, sR_15_2, sR_15_3, sR_15_4, sR_15_5, sR_15_6, sR_15_7, sR_15_8, sT_24, sT_25, sT_26, sT_27, sT_28, sT_29, sR_24_1, sR_24_2, sR_24_3, sR_24_4, sR_24_5, sT_71, sT_72, sR_71_0, sR_71_1, sR_71_2, sR_71_3, sR_71_4, sT_73, sT_74, sT_75, sR_73_0, sR_73_1, sR_73_2, sR_73_3, sR_73_4, sR_73_5, sT_84, sT_85, sT_86, sT_87, sR_84_0, sR_84_1, sR_84_2, sR_84_3, sR_84_4, sR_84_5, sT_88, sT_89, sR_88_0, sT_90, sT_91, sR_90_0, c0]
