/-! the MEAN -/
def W83 (a _ : Nat) : Prop := a = 83
theorem W83_ok {a j : Nat} (q : W83 a j) : okG a := by unfold W83 at q; unfold okG; omega
theorem W83_cC {a j : Nat} (q : W83 a j) : ¬ cC a j := by
  unfold W83 at q
  unfold cC isCA
  rintro (z | ⟨c, q1, q2, q3⟩ | z) <;> omega
theorem RC_83 {A : AS} {tx : List Nat} {rw : List Int32} {h h' : jHp} (r : RC A tx rw h) (f : Fr W83 h h') : RC A tx rw h' ∧ FC h h' :=
  ⟨RC_g r (FG_Fr (U := fun _ _ => False) f) (fun a j q => W83_ok q) (CRw_fr r.2.2.2.2.1 f fun a j q => by unfold W83 at q; omega) (CSt_fr r.2.2.2.2.2 f fun a j q => by unfold W83 at q; unfold isG; omega), FC_Fr f fun a j q => by unfold W83 at q; omega⟩
theorem KF_83 {A : AS} {fa fl : Nat} {h h' : jHp} (k : KF A fa fl h) (f : Fr W83 h h') : KF A fa fl h' := KF_fr k f fun a j q => by unfold W83 at q; unfold isG; omega
theorem KF_mem {A : AS} (w : WF A) {i : Nat} (hi : i < (sAllR A).length) : (sAllR A).getD i 0 < 2 ^ aNb A ∧ sMat A ((sAllR A).getD i 0) := by
  have h := (sAllR_mem w).mp (getD_mem' (d := 0) hi)
  exact ⟨h.1, (std_ok w h.1 h.2).1⟩
-- purely
def cSm (g : Nat → Nat) (n : Nat) : Nat := nfo (fun q s => s + g q) n 0
theorem cSm_mono (g : Nat → Nat) : ∀ {n m}, n ≤ m → cSm g n ≤ cSm g m := by
  intro n m
  induction m with
  | zero => intro h; have : n = 0 := by omega
            subst this; exact Nat.le_refl _
  | succ m ih =>
    intro h
    by_cases q : n = m + 1
    · subst q; exact Nat.le_refl _
    · have h1 := ih (by omega)
      have e : cSm g (m + 1) = cSm g m + g m := rfl
      omega
def mdP (A : AS) (l : List Nat) (p q : Nat) : Bool := decide ((l.length - 1) / 2 < cSm (sCr A l p) (q + 1))
def mdO (A : AS) (l : List Nat) (p : Nat) : Option Nat := fst1 (mdP A l p) (aLl A p).length
def mdM (A : AS) (l : List Nat) (p : Nat) : Nat := match mdO A l p with
  | some q => 2 ^ ((aLl A p).getD q 0)
  | none => 0
theorem fst1_suc {p : Nat → Bool} {n : Nat} : fst1 p (n + 1) = match fst1 p n with
  | some j => some j
  | none => if p n then some n else none := by
  cases h : fst1 p n with
  | some j =>
    obtain ⟨h1, h2, h3⟩ := fst1_some h
    exact fst1_of (by omega) h2 h3
  | none =>
    have h1 := fst1_none h
    cases hp : p n with
    | true => exact fst1_of (by omega) hp h1
    | false =>
      refine fst1_no fun m hm => ?_
      by_cases q : m = n
      · rw [q]; exact hp
      · exact h1 m (by omega)
theorem mdN (A : AS) (l : List Nat) (p m : Nat) : ∀ n, nfo (sMnS A l p) n (m, 0) = ((match fst1 (mdP A l p) n with
  | some q => m ||| 2 ^ ((aLl A p).getD q 0)
  | none => m), cSm (sCr A l p) n) := by
  intro n
  induction n with
  | zero => rfl
  | succ n ih =>
    have e : nfo (sMnS A l p) (n + 1) (m, 0) = sMnS A l p n (nfo (sMnS A l p) n (m, 0)) := rfl
    have e2 : cSm (sCr A l p) (n + 1) = cSm (sCr A l p) n + sCr A l p n := rfl
    rw [e, ih, fst1_suc, e2]
    unfold sMnS
    cases h : fst1 (mdP A l p) n with
    | some q =>
      obtain ⟨h1, h2, -⟩ := fst1_some h
      have h3 := cSm_mono (sCr A l p) (show q + 1 ≤ n by omega)
      unfold mdP at h2
      simp only [decide_eq_true_eq] at h2
      simp only
      rw [if_neg (by omega)]
    | none =>
      have h1 := fst1_none h
      have h2 : cSm (sCr A l p) n ≤ (l.length - 1) / 2 := by
        cases n with
        | zero => exact Nat.zero_le _
        | succ k =>
          have := h1 k (by omega)
          unfold mdP at this
          simp only [decide_eq_false_iff_not] at this
          omega
      simp only
      by_cases q : (l.length - 1) / 2 < cSm (sCr A l p) n + sCr A l p n
      · rw [if_pos ⟨h2, q⟩, if_pos (by unfold mdP; rw [e2]; simpa using q)]
      · rw [if_neg (fun z => q z.2), if_neg (by unfold mdP; rw [e2]; simpa using q)]
theorem mdM_ok (A : AS) (l : List Nat) (p m : Nat) : sMnP A l p m = m ||| mdM A l p := by
  unfold sMnP
  rw [mdN]
  unfold mdM mdO
  cases fst1 (mdP A l p) (aLl A p).length with
  | some q => rfl
  | none => simp
def rI (o : Option Nat) : Nat := match o with
  | some n => n
  | none => 15
theorem rI_and {o : Option Nat} (h : ∀ n, o = some n → n ≤ 15) : oI o &&& nI 15 = nI (rI o) := by
  cases o with
  | none => rw [oI_n]; decide
  | some n =>
    have := h n rfl
    rw [oI_s, n_and]
    congr 1
    show n &&& 15 = n
    rw [show 15 = 2 ^ 4 - 1 from rfl, Nat.and_two_pow_sub_one_eq_mod]
    exact Nat.mod_eq_of_lt (by omega)
def tlC (g : Nat → Nat) (n q : Nat) : Nat := nfo (fun k m => m + if g k = q then 1 else 0) n 0
theorem tlC_le (g : Nat → Nat) (q : Nat) : ∀ n, tlC g n q ≤ n := by
  intro n
  induction n with
  | zero => exact Nat.le_refl _
  | succ n ih =>
    have e : tlC g (n + 1) q = tlC g n q + if g n = q then 1 else 0 := rfl
    rw [e]
    split <;> omega
theorem tlC_Cr (A : AS) (l : List Nat) (p : Nat) {q : Nat} (hq : q < 15) : tlC (fun k => rI (sRnk A (l.getD k 0) p)) l.length q = sCr A l p q := by
  unfold tlC sCr
  apply nfo_congr
  intro i hi t
  congr 1
  have : (rI (sRnk A (l.getD i 0) p) = q) = (sRnk A (l.getD i 0) p = some q) := by
    cases sRnk A (l.getD i 0) p with
    | none => simp [rI]; omega
    | some n => simp [rI]
  simp only [this]
theorem e_St_midst {A : AS} {fa fl : Nat} {h : jHp} (mk : MK A h) (kf : KF A fa fl h) {p : Nat} (hp : p < aNp A) : ∃ h', f_St_midst [.ref 77, .int (nI p)] h = some (some (.int (nI (mdM A (sAllR A) p))), h') ∧ Fr W83 h h' := by
  have hs := mk.1.1
  have w := mk.1.2.1
  have hn := w.1.1
  have h20 := w.2.2.1.1
  have hlen := sAllR_len w
  obtain ⟨h1, e1, f1, c1⟩ := e_J_fill (nI 0) (sT_83 hs) (by decide) (by decide)
  have f1 : Fr W83 h h1 := f1
  have t0 := sT_77 hs
  have r0 := sR_77_14 hs
  have hL := loop_wp (lb := 1) (lc := 2) (c := lc_St_midst_1) (b := lb_St_midst_1) (u := lu_St_midst_1) (sAllR A).length
    (fun i st => ∃ h', st = ([.ref 77, .int (nI p), .int (nI i), .null], h') ∧ Fr W83 h h' ∧ ∀ q, q < 16 → hI h' 83 q = nI (tlC (fun k => rI (sRnk A ((sAllR A).getD k 0) p)) i q))
    (fun r => ∃ h', r = (.inl 0, ([.ref 77, .int (nI p), .int (nI (sAllR A).length), .null], h')) ∧ Fr W83 h h' ∧ ∀ q, q < 16 → hI h' 83 q = nI (tlC (fun k => rI (sRnk A ((sAllR A).getD k 0) p)) (sAllR A).length q))
    ?_ ?_ ([.ref 77, .int (nI p), .int (nI 0), .null], h1) ⟨h1, rfl, f1, fun q hq => c1 q (by omega)⟩
  · obtain ⟨r, e2, h2, rfl, f2, c2⟩ := hL
    have hs2 := Fr_shape hs f2
    have mk2 := MK_fr mk f2 fun a j q => W83_cC q
    have kf2 := KF_83 kf f2
    refine ⟨h2, ?_, f2⟩
    have l1 := (mk2.1.2.2.2.2.2.2.1 p (by omega)).2.1
    have l2 := (mk2.1.2.2.2.2.2.2.1 p (by omega)).2.2.2
    have hl5 := (w.2.2.2.1 p).2.1
    have hmem := (w.2.2.2.1 p).2.2.2
    have k7 := kf2.2.1
    have t2 := sT_77 hs2
    have u2 := sT_83 hs2
    have r2 := sR_77_14 hs2
    have rp := sR_77_0 hs2
    have hcr : ∀ q, q < 6 → hI h2 83 q = nI (sCr A (sAllR A) p q) := fun q hq => by
      rw [c2 q (by omega), tlC_Cr A _ p (by omega)]
    have hbd : ∀ i, cSm (sCr A (sAllR A) p) i ≤ 12288 * i := by
      intro i
      induction i with
      | zero => exact Nat.le_refl _
      | succ i ih =>
        have := sCr_le A (sAllR A) p i
        have e : cSm (sCr A (sAllR A) p) (i + 1) = cSm (sCr A (sAllR A) p) i + sCr A (sAllR A) p i := rfl
        omega
    have hL2 := loop_wp (lb := 3) (lc := 4) (c := lc_St_midst_2) (b := lb_St_midst_2) (u := lu_St_midst_2) (aLl A p).length
      (fun i st => st = ([.ref 77, .int (nI p), .int (nI (cSm (sCr A (sAllR A) p) i)), .int (nI i)], h2) ∧ ∀ m, m < i → mdP A (sAllR A) p m = false)
      (fun r => (∃ q st, mdO A (sAllR A) p = some q ∧ r = (.inr (some (.int (nI (2 ^ ((aLl A p).getD q 0))))), (st, h2))) ∨ (∃ st, mdO A (sAllR A) p = none ∧ r = (.inl 0, (st, h2))))
      ?_ ?_ ([.ref 77, .int (nI p), .int (nI 0), .int (nI 0)], h2) ⟨rfl, fun m hm => by cases hm⟩
    · obtain ⟨r, e3, hq⟩ := hL2
      unfold mdM
      simp only [nI_0] at e2 e3 e1
      rcases hq with ⟨q, st, hq, rfl⟩ | ⟨st, hq, rfl⟩
      · rw [hq]
        simp only
        generalize nI (2 ^ ((aLl A p).getD q 0)) = Z at *
        clear hcr hbd k7 l2 hmem c2
        generalize (sAllR A).length = LL at *
        simp (disch := first | assumption | omega) [f_St_midst, body_St_midst, j_meth, j_out, j_rok, j_pad, lg_sl, s_seq_w, isN_inl, isN_inr, s_if, jb, x_c, x_iloc, x_aloc, x_lloc, x_bin, x_un, o_add, o_sub, o_mul, o_and, o_or, o_xor, o_shl, o_shr, o_ushr, o_max, o_min, o_i2b, o_i2c, o_i2l, o_l2i, x_fld, j_fget, x_idx, j_aget, x_len, j_alen, x_ofb, x_ite, xs_nil, xs_cons, x_callv, x_calls, s_callv, s_calls, j_recv, j_ret, j_retv, b_cmp, b_and, b_or, b_not, b_ofi, b_ite, b_true, s_skip, s_set, j_ty, j_lset, j_kill, s_inc, s_fput, j_fput, s_fop, s_aput, j_aput, j_nar, s_aop, s_ret, s_retv, s_go, s_pop, x_linc, x_finc, Value.category, if_icmp.holds, List.flatMap_cons, List.flatMap_nil, List.length_cons, List.length_append, List.length_nil, List.set_cons_succ, List.set_cons_zero, List.getElem?_cons_succ, List.getElem?_cons_zero, List.replicate, ite_and', ite_or', ite_int', nI_leI, nI_ltI, nI_eq, nI_add, nI_1, pk_mul, nI_clamp, n_in', nI_pos', nI_pos, n_m1e, n_01, n_10, sT_1, sR_1_0, sR_1_1, sR_1_2, sR_1_3, sR_1_4, sR_1_5, sR_1_6, sR_1_7, sR_1_8, sR_1_9, sT_2, sT_3, sT_4, sT_5, sT_6, sT_7, sT_8, sT_9, sT_10, sT_11, sT_12, sT_13, sT_14, sR_2_1, sR_2_2, sR_2_3, sR_2_4, sR_2_5, sR_2_6, sR_2_7, sR_2_8, sR_2_9, sR_2_10, sR_2_11, sR_2_12, sT_15, sT_16, sT_17, sT_18, sT_19, sT_20, sT_21, sT_22, sT_23, sR_15_1, sR_15_2, sR_15_3, sR_15_4, sR_15_5, sR_15_6, sR_15_7, sR_15_8, sT_24, sT_25, sT_26, sT_27, sT_28, sT_29, sR_24_1, sR_24_2, sR_24_3, sR_24_4, sR_24_5, sT_71, sT_72, sR_71_0, sR_71_1, sR_71_2, sR_71_3, sR_71_4, sT_73, sT_74, sT_75, sR_73_0, sR_73_1, sR_73_2, sR_73_3, sR_73_4, sR_73_5, sT_84, sT_85, sT_86, sT_87, sR_84_0, sR_84_1, sR_84_2, sR_84_3, sR_84_4, sR_84_5, sT_88, sT_89, sR_88_0, sT_90, sT_91, sR_90_0, t0, r0, nI_0, e1, e2, e3]
      · rw [hq]
        simp only
        clear hcr hbd k7 l2 hmem c2
        generalize (sAllR A).length = LL at *
        simp (disch := first | assumption | omega) [f_St_midst, body_St_midst, j_meth, j_out, j_rok, j_pad, lg_sl, s_seq_w, isN_inl, isN_inr, s_if, jb, x_c, x_iloc, x_aloc, x_lloc, x_bin, x_un, o_add, o_sub, o_mul, o_and, o_or, o_xor, o_shl, o_shr, o_ushr, o_max, o_min, o_i2b, o_i2c, o_i2l, o_l2i, x_fld, j_fget, x_idx, j_aget, x_len, j_alen, x_ofb, x_ite, xs_nil, xs_cons, x_callv, x_calls, s_callv, s_calls, j_recv, j_ret, j_retv, b_cmp, b_and, b_or, b_not, b_ofi, b_ite, b_true, s_skip, s_set, j_ty, j_lset, j_kill, s_inc, s_fput, j_fput, s_fop, s_aput, j_aput, j_nar, s_aop, s_ret, s_retv, s_go, s_pop, x_linc, x_finc, Value.category, if_icmp.holds, List.flatMap_cons, List.flatMap_nil, List.length_cons, List.length_append, List.length_nil, List.set_cons_succ, List.set_cons_zero, List.getElem?_cons_succ, List.getElem?_cons_zero, List.replicate, ite_and', ite_or', ite_int', nI_leI, nI_ltI, nI_eq, nI_add, nI_1, pk_mul, nI_clamp, n_in', nI_pos', nI_pos, n_m1e, n_01, n_10, sT_1, sR_1_0, sR_1_1, sR_1_2, sR_1_3, sR_1_4, sR_1_5, sR_1_6, sR_1_7, sR_1_8, sR_1_9, sT_2, sT_3, sT_4, sT_5, sT_6, sT_7, sT_8, sT_9, sT_10, sT_11, sT_12, sT_13, sT_14, sR_2_1, sR_2_2, sR_2_3, sR_2_4, sR_2_5, sR_2_6, sR_2_7, sR_2_8, sR_2_9, sR_2_10, sR_2_11, sR_2_12, sT_15, sT_16, sT_17, sT_18, sT_19, sT_20, sT_21, sT_22, sT_23, sR_15_1, sR_15_2, sR_15_3, sR_15_4, sR_15_5, sR_15_6, sR_15_7, sR_15_8, sT_24, sT_25, sT_26, sT_27, sT_28, sT_29, sR_24_1, sR_24_2, sR_24_3, sR_24_4, sR_24_5, sT_71, sT_72, sR_71_0, sR_71_1, sR_71_2, sR_71_3, sR_71_4, sT_73, sT_74, sT_75, sR_73_0, sR_73_1, sR_73_2, sR_73_3, sR_73_4, sR_73_5, sT_84, sT_85, sT_86, sT_87, sR_84_0, sR_84_1, sR_84_2, sR_84_3, sR_84_4, sR_84_5, sT_88, sT_89, sR_88_0, sT_90, sT_91, sR_90_0, t0, r0, nI_0, e1, e2, e3]
    · rintro i st hi ⟨rfl, hno⟩
      have g1 := hcr i (by omega)
      have g2 := l2 i hi
      have hx := (hmem _ (getD_mem' (d := 0) hi)).1
      have b1 := hbd i
      have b2 := sCr_le A (sAllR A) p i
      have e5 : cSm (sCr A (sAllR A) p) (i + 1) = cSm (sCr A (sAllR A) p) i + sCr A (sAllR A) p i := rfl
      by_cases hz : (sAllR A).length = 0
      · -- nothing there: nothing is passed
        have hc0 : ∀ j, cSm (sCr A (sAllR A) p) j = 0 := by
          intro j
          induction j with
          | zero => rfl
          | succ j ih =>
            have := sCr_le A (sAllR A) p j
            have e : cSm (sCr A (sAllR A) p) (j + 1) = cSm (sCr A (sAllR A) p) j + sCr A (sAllR A) p j := rfl
            omega
        left
        have hP : mdP A (sAllR A) p i = false := by unfold mdP; rw [hc0]; simp
        refine ⟨([.ref 77, .int (nI p), .int (nI (cSm (sCr A (sAllR A) p) (i + 1))), .int (nI (i + 1))], h2), ?_, rfl, fun m hm => ?_⟩
        · rw [hz] at k7
          have d1 : o_div (.int (nI 0 - nI 1)) (.int (nI 2)) = some (.int (nI 0)) := by decide
          rw [hc0] at e5 ⊢
          rw [hc0] at e5 ⊢
          have hcr0 : sCr A (sAllR A) p i = 0 := by omega
          rw [hcr0] at g1
          clear hcr hbd l2 hmem c2 e2 hno hP hc0 e5 b1 b2 kf2 kf
          simp (disch := first | assumption | omega) [lstp, lc_St_midst_2, lb_St_midst_2, lu_St_midst_2, j_meth, j_out, j_rok, j_pad, lg_sl, s_seq_w, isN_inl, isN_inr, s_if, jb, x_c, x_iloc, x_aloc, x_lloc, x_bin, x_un, o_add, o_sub, o_mul, o_and, o_or, o_xor, o_shl, o_shr, o_ushr, o_max, o_min, o_i2b, o_i2c, o_i2l, o_l2i, x_fld, j_fget, x_idx, j_aget, x_len, j_alen, x_ofb, x_ite, xs_nil, xs_cons, x_callv, x_calls, s_callv, s_calls, j_recv, j_ret, j_retv, b_cmp, b_and, b_or, b_not, b_ofi, b_ite, b_true, s_skip, s_set, j_ty, j_lset, j_kill, s_inc, s_fput, j_fput, s_fop, s_aput, j_aput, j_nar, s_aop, s_ret, s_retv, s_go, s_pop, x_linc, x_finc, Value.category, if_icmp.holds, List.flatMap_cons, List.flatMap_nil, List.length_cons, List.length_append, List.length_nil, List.set_cons_succ, List.set_cons_zero, List.getElem?_cons_succ, List.getElem?_cons_zero, List.replicate, ite_and', ite_or', ite_int', nI_leI, nI_ltI, nI_eq, nI_add, nI_1, pk_mul, nI_clamp, n_in', nI_pos', nI_pos, n_m1e, n_01, n_10, sT_1, sR_1_0, sR_1_1, sR_1_2, sR_1_3, sR_1_4, sR_1_5, sR_1_6, sR_1_7, sR_1_8, sR_1_9, sT_2, sT_3, sT_4, sT_5, sT_6, sT_7, sT_8, sT_9, sT_10, sT_11, sT_12, sT_13, sT_14, sR_2_1, sR_2_2, sR_2_3, sR_2_4, sR_2_5, sR_2_6, sR_2_7, sR_2_8, sR_2_9, sR_2_10, sR_2_11, sR_2_12, sT_15, sT_16, sT_17, sT_18, sT_19, sT_20, sT_21, sT_22, sT_23, sR_15_1, sR_15_2, sR_15_3, sR_15_4, sR_15_5, sR_15_6, sR_15_7, sR_15_8, sT_24, sT_25, sT_26, sT_27, sT_28, sT_29, sR_24_1, sR_24_2, sR_24_3, sR_24_4, sR_24_5, sT_71, sT_72, sR_71_0, sR_71_1, sR_71_2, sR_71_3, sR_71_4, sT_73, sT_74, sT_75, sR_73_0, sR_73_1, sR_73_2, sR_73_3, sR_73_4, sR_73_5, sT_84, sT_85, sT_86, sT_87, sR_84_0, sR_84_1, sR_84_2, sR_84_3, sR_84_4, sR_84_5, sT_88, sT_89, sR_88_0, sT_90, sT_91, sR_90_0, t2, u2, r2, rp, l1, hi, g1, k7, d1]
        · by_cases q : m = i
          · rw [q]; exact hP
          · exact hno m (by omega)
      have d1 : nI (sAllR A).length - nI 1 = nI ((sAllR A).length - 1) := pk_sub (by omega)
      have d2 := pk_div (a := (sAllR A).length - 1) (d := 2) (by omega) (by omega) (by omega)
      have d3 : ¬ nI 2 = 0 := by decide
      have hP : mdP A (sAllR A) p i = decide (((sAllR A).length - 1) / 2 < cSm (sCr A (sAllR A) p) i + sCr A (sAllR A) p i) := rfl
      have hcp : (nI (cSm (sCr A (sAllR A) p) i + sCr A (sAllR A) p i) > nI (((sAllR A).length - 1) / 2)) = (((sAllR A).length - 1) / 2 < cSm (sCr A (sAllR A) p) i + sCr A (sAllR A) p i) := by
        show (nI _ < nI _) = _
        rw [nI_ltI (by omega) (by omega)]
      have hpr : p * 5 + i = 5 * p + i := by omega
      have hin : j_in (nI (5 * p + i)) 35 = true := n_in' (by omega) (by omega)
      by_cases q : ((sAllR A).length - 1) / 2 < cSm (sCr A (sAllR A) p) i + sCr A (sAllR A) p i
      · right
        have hsh := n_shl 1 (k := (aLl A p).getD i 0) (by omega)
        rw [Nat.one_mul] at hsh
        refine ⟨(.inr (some (.int (nI (2 ^ ((aLl A p).getD i 0))))), ([.ref 77, .int (nI p), .int (nI (cSm (sCr A (sAllR A) p) i + sCr A (sAllR A) p i)), .int (nI i)], h2)), ?_, Or.inl ⟨i, _, fst1_of hi (by rw [hP]; simpa using q) hno, rfl⟩⟩
        clear hcr hbd l2 hmem c2 e2 hno hP e5 kf2 kf
        generalize (aLl A p).getD i 0 = y at *
        generalize cSm (sCr A (sAllR A) p) i = s at *
        generalize sCr A (sAllR A) p i = c at *
        generalize (sAllR A).length = LL at *
        simp (disch := first | assumption | omega) [lstp, lc_St_midst_2, lb_St_midst_2, lu_St_midst_2, j_meth, j_out, j_rok, j_pad, lg_sl, s_seq_w, isN_inl, isN_inr, s_if, jb, x_c, x_iloc, x_aloc, x_lloc, x_bin, x_un, o_add, o_sub, o_mul, o_and, o_or, o_xor, o_shl, o_shr, o_ushr, o_max, o_min, o_i2b, o_i2c, o_i2l, o_l2i, x_fld, j_fget, x_idx, j_aget, x_len, j_alen, x_ofb, x_ite, xs_nil, xs_cons, x_callv, x_calls, s_callv, s_calls, j_recv, j_ret, j_retv, b_cmp, b_and, b_or, b_not, b_ofi, b_ite, b_true, s_skip, s_set, j_ty, j_lset, j_kill, s_inc, s_fput, j_fput, s_fop, s_aput, j_aput, j_nar, s_aop, s_ret, s_retv, s_go, s_pop, x_linc, x_finc, Value.category, if_icmp.holds, List.flatMap_cons, List.flatMap_nil, List.length_cons, List.length_append, List.length_nil, List.set_cons_succ, List.set_cons_zero, List.getElem?_cons_succ, List.getElem?_cons_zero, List.replicate, ite_and', ite_or', ite_int', nI_leI, nI_ltI, nI_eq, nI_add, nI_1, pk_mul, nI_clamp, n_in', nI_pos', nI_pos, n_m1e, n_01, n_10, sT_1, sR_1_0, sR_1_1, sR_1_2, sR_1_3, sR_1_4, sR_1_5, sR_1_6, sR_1_7, sR_1_8, sR_1_9, sT_2, sT_3, sT_4, sT_5, sT_6, sT_7, sT_8, sT_9, sT_10, sT_11, sT_12, sT_13, sT_14, sR_2_1, sR_2_2, sR_2_3, sR_2_4, sR_2_5, sR_2_6, sR_2_7, sR_2_8, sR_2_9, sR_2_10, sR_2_11, sR_2_12, sT_15, sT_16, sT_17, sT_18, sT_19, sT_20, sT_21, sT_22, sT_23, sR_15_1, sR_15_2, sR_15_3, sR_15_4, sR_15_5, sR_15_6, sR_15_7, sR_15_8, sT_24, sT_25, sT_26, sT_27, sT_28, sT_29, sR_24_1, sR_24_2, sR_24_3, sR_24_4, sR_24_5, sT_71, sT_72, sR_71_0, sR_71_1, sR_71_2, sR_71_3, sR_71_4, sT_73, sT_74, sT_75, sR_73_0, sR_73_1, sR_73_2, sR_73_3, sR_73_4, sR_73_5, sT_84, sT_85, sT_86, sT_87, sR_84_0, sR_84_1, sR_84_2, sR_84_3, sR_84_4, sR_84_5, sT_88, sT_89, sR_88_0, sT_90, sT_91, sR_90_0, t2, u2, r2, rp, l1, hi, g1, k7, d1, o_div, d3, d2, hcp, q, hpr, hin, g2, hsh]
      · left
        refine ⟨([.ref 77, .int (nI p), .int (nI (cSm (sCr A (sAllR A) p) (i + 1))), .int (nI (i + 1))], h2), ?_, rfl, fun m hm => ?_⟩
        · rw [e5]
          clear hcr hbd l2 hmem c2 e2 hno hP e5 kf2 kf
          generalize cSm (sCr A (sAllR A) p) i = s at *
          generalize sCr A (sAllR A) p i = c at *
          generalize (sAllR A).length = LL at *
          simp (disch := first | assumption | omega) [lstp, lc_St_midst_2, lb_St_midst_2, lu_St_midst_2, j_meth, j_out, j_rok, j_pad, lg_sl, s_seq_w, isN_inl, isN_inr, s_if, jb, x_c, x_iloc, x_aloc, x_lloc, x_bin, x_un, o_add, o_sub, o_mul, o_and, o_or, o_xor, o_shl, o_shr, o_ushr, o_max, o_min, o_i2b, o_i2c, o_i2l, o_l2i, x_fld, j_fget, x_idx, j_aget, x_len, j_alen, x_ofb, x_ite, xs_nil, xs_cons, x_callv, x_calls, s_callv, s_calls, j_recv, j_ret, j_retv, b_cmp, b_and, b_or, b_not, b_ofi, b_ite, b_true, s_skip, s_set, j_ty, j_lset, j_kill, s_inc, s_fput, j_fput, s_fop, s_aput, j_aput, j_nar, s_aop, s_ret, s_retv, s_go, s_pop, x_linc, x_finc, Value.category, if_icmp.holds, List.flatMap_cons, List.flatMap_nil, List.length_cons, List.length_append, List.length_nil, List.set_cons_succ, List.set_cons_zero, List.getElem?_cons_succ, List.getElem?_cons_zero, List.replicate, ite_and', ite_or', ite_int', nI_leI, nI_ltI, nI_eq, nI_add, nI_1, pk_mul, nI_clamp, n_in', nI_pos', nI_pos, n_m1e, n_01, n_10, sT_1, sR_1_0, sR_1_1, sR_1_2, sR_1_3, sR_1_4, sR_1_5, sR_1_6, sR_1_7, sR_1_8, sR_1_9, sT_2, sT_3, sT_4, sT_5, sT_6, sT_7, sT_8, sT_9, sT_10, sT_11, sT_12, sT_13, sT_14, sR_2_1, sR_2_2, sR_2_3, sR_2_4, sR_2_5, sR_2_6, sR_2_7, sR_2_8, sR_2_9, sR_2_10, sR_2_11, sR_2_12, sT_15, sT_16, sT_17, sT_18, sT_19, sT_20, sT_21, sT_22, sT_23, sR_15_1, sR_15_2, sR_15_3, sR_15_4, sR_15_5, sR_15_6, sR_15_7, sR_15_8, sT_24, sT_25, sT_26, sT_27, sT_28, sT_29, sR_24_1, sR_24_2, sR_24_3, sR_24_4, sR_24_5, sT_71, sT_72, sR_71_0, sR_71_1, sR_71_2, sR_71_3, sR_71_4, sT_73, sT_74, sT_75, sR_73_0, sR_73_1, sR_73_2, sR_73_3, sR_73_4, sR_73_5, sT_84, sT_85, sT_86, sT_87, sR_84_0, sR_84_1, sR_84_2, sR_84_3, sR_84_4, sR_84_5, sT_88, sT_89, sR_88_0, sT_90, sT_91, sR_90_0, t2, u2, r2, rp, l1, hi, g1, k7, d1, o_div, d3, d2, hcp, q]
        · by_cases q' : m = i
          · rw [q', hP]; simpa using q
          · exact hno m (by omega)
    · rintro st ⟨rfl, hno⟩
      refine ⟨(.inl 0, ([.ref 77, .int (nI p), .int (nI (cSm (sCr A (sAllR A) p) (aLl A p).length)), .int (nI (aLl A p).length)], h2)), ?_, Or.inr ⟨_, fst1_no hno, rfl⟩⟩
      clear hcr hbd l2 hmem c2 e2 hno
      simp (disch := first | assumption | omega) [lstp, lc_St_midst_2, lb_St_midst_2, lu_St_midst_2, j_meth, j_out, j_rok, j_pad, lg_sl, s_seq_w, isN_inl, isN_inr, s_if, jb, x_c, x_iloc, x_aloc, x_lloc, x_bin, x_un, o_add, o_sub, o_mul, o_and, o_or, o_xor, o_shl, o_shr, o_ushr, o_max, o_min, o_i2b, o_i2c, o_i2l, o_l2i, x_fld, j_fget, x_idx, j_aget, x_len, j_alen, x_ofb, x_ite, xs_nil, xs_cons, x_callv, x_calls, s_callv, s_calls, j_recv, j_ret, j_retv, b_cmp, b_and, b_or, b_not, b_ofi, b_ite, b_true, s_skip, s_set, j_ty, j_lset, j_kill, s_inc, s_fput, j_fput, s_fop, s_aput, j_aput, j_nar, s_aop, s_ret, s_retv, s_go, s_pop, x_linc, x_finc, Value.category, if_icmp.holds, List.flatMap_cons, List.flatMap_nil, List.length_cons, List.length_append, List.length_nil, List.set_cons_succ, List.set_cons_zero, List.getElem?_cons_succ, List.getElem?_cons_zero, List.replicate, ite_and', ite_or', ite_int', nI_leI, nI_ltI, nI_eq, nI_add, nI_1, pk_mul, nI_clamp, n_in', nI_pos', nI_pos, n_m1e, n_01, n_10, sT_1, sR_1_0, sR_1_1, sR_1_2, sR_1_3, sR_1_4, sR_1_5, sR_1_6, sR_1_7, sR_1_8, sR_1_9, sT_2, sT_3, sT_4, sT_5, sT_6, sT_7, sT_8, sT_9, sT_10, sT_11, sT_12, sT_13, sT_14, sR_2_1, sR_2_2, sR_2_3, sR_2_4, sR_2_5, sR_2_6, sR_2_7, sR_2_8, sR_2_9, sR_2_10, sR_2_11, sR_2_12, sT_15, sT_16, sT_17, sT_18, sT_19, sT_20, sT_21, sT_22, sT_23, sR_15_1, sR_15_2, sR_15_3, sR_15_4, sR_15_5, sR_15_6, sR_15_7, sR_15_8, sT_24, sT_25, sT_26, sT_27, sT_28, sT_29, sR_24_1, sR_24_2, sR_24_3, sR_24_4, sR_24_5, sT_71, sT_72, sR_71_0, sR_71_1, sR_71_2, sR_71_3, sR_71_4, sT_73, sT_74, sT_75, sR_73_0, sR_73_1, sR_73_2, sR_73_3, sR_73_4, sR_73_5, sT_84, sT_85, sT_86, sT_87, sR_84_0, sR_84_1, sR_84_2, sR_84_3, sR_84_4, sR_84_5, sT_88, sT_89, sR_88_0, sT_90, sT_91, sR_90_0, t2, rp, l1]
  · rintro i st hi ⟨h3, rfl, f3, c3⟩
    left
    have hs3 := Fr_shape hs f3
    have mk3 := MK_fr mk f3 fun a j q => W83_cC q
    have kf3 := KF_83 kf f3
    obtain ⟨m1, m2⟩ := KF_mem w hi
    have er := e_Ma_rankOfPerson mk3 (p := p) (by omega) m1 m2
    have hr := rI_and (o := sRnk A ((sAllR A).getD i 0) p) fun n hn => by have := sRnk_lt w hn; omega
    have hr16 : rI (sRnk A ((sAllR A).getD i 0) p) < 16 := by
      unfold rI
      cases hq : sRnk A ((sAllR A).getD i 0) p with
      | none => decide
      | some n => have := sRnk_lt w hq; simp only; omega
    have g1 := c3 _ hr16
    have hin : j_in (nI (rI (sRnk A ((sAllR A).getD i 0) p))) 128 = true := n_in' (by omega) (by omega)
    have hcl := nI_clamp (n := rI (sRnk A ((sAllR A).getD i 0) p)) (by omega)
    refine ⟨([.ref 77, .int (nI p), .int (nI (i + 1)), .null], hSetI h3 83 (rI (sRnk A ((sAllR A).getD i 0) p)) (nI (tlC (fun k => rI (sRnk A ((sAllR A).getD k 0) p)) i (rI (sRnk A ((sAllR A).getD i 0) p)) + 1))), ?_, _, rfl, Fr_trans f3 (Fr_set _ rfl), fun q hq => ?_⟩
    · obtain ⟨⟨k1, k2, k3, -⟩, k5, k6, k7, k8⟩ := kf3
      have g8 := k8 i hi
      clear k8 c3 c1
      have hin2 : j_in (nI i) fl = true := n_in' (by omega) (by omega)
      have t3 := sT_77 hs3
      have u3 := sT_83 hs3
      have r3 := sR_77_14 hs3
      have rm := sR_77_2 hs3
      generalize tlC (fun k => rI (sRnk A ((sAllR A).getD k 0) p)) i (rI (sRnk A ((sAllR A).getD i 0) p)) = T at *
      generalize rI (sRnk A ((sAllR A).getD i 0) p) = R at *
      generalize oI (sRnk A ((sAllR A).getD i 0) p) = O at *
      clear m1 m2
      generalize (sAllR A).getD i 0 = V at *
      clear kf mk mk3 f3 f1
      generalize (sAllR A).length = LL at *
      simp (disch := first | assumption | omega) [lstp, lc_St_midst_1, lb_St_midst_1, lu_St_midst_1, j_meth, j_out, j_rok, j_pad, lg_sl, s_seq_w, isN_inl, isN_inr, s_if, jb, x_c, x_iloc, x_aloc, x_lloc, x_bin, x_un, o_add, o_sub, o_mul, o_and, o_or, o_xor, o_shl, o_shr, o_ushr, o_max, o_min, o_i2b, o_i2c, o_i2l, o_l2i, x_fld, j_fget, x_idx, j_aget, x_len, j_alen, x_ofb, x_ite, xs_nil, xs_cons, x_callv, x_calls, s_callv, s_calls, j_recv, j_ret, j_retv, b_cmp, b_and, b_or, b_not, b_ofi, b_ite, b_true, s_skip, s_set, j_ty, j_lset, j_kill, s_inc, s_fput, j_fput, s_fop, s_aput, j_aput, j_nar, s_aop, s_ret, s_retv, s_go, s_pop, x_linc, x_finc, Value.category, if_icmp.holds, List.flatMap_cons, List.flatMap_nil, List.length_cons, List.length_append, List.length_nil, List.set_cons_succ, List.set_cons_zero, List.getElem?_cons_succ, List.getElem?_cons_zero, List.replicate, ite_and', ite_or', ite_int', nI_leI, nI_ltI, nI_eq, nI_add, nI_1, pk_mul, nI_clamp, n_in', nI_pos', nI_pos, n_m1e, n_01, n_10, sT_1, sR_1_0, sR_1_1, sR_1_2, sR_1_3, sR_1_4, sR_1_5, sR_1_6, sR_1_7, sR_1_8, sR_1_9, sT_2, sT_3, sT_4, sT_5, sT_6, sT_7, sT_8, sT_9, sT_10, sT_11, sT_12, sT_13, sT_14, sR_2_1, sR_2_2, sR_2_3, sR_2_4, sR_2_5, sR_2_6, sR_2_7, sR_2_8, sR_2_9, sR_2_10, sR_2_11, sR_2_12, sT_15, sT_16, sT_17, sT_18, sT_19, sT_20, sT_21, sT_22, sT_23, sR_15_1, sR_15_2, sR_15_3, sR_15_4, sR_15_5, sR_15_6, sR_15_7, sR_15_8, sT_24, sT_25, sT_26, sT_27, sT_28, sT_29, sR_24_1, sR_24_2, sR_24_3, sR_24_4, sR_24_5, sT_71, sT_72, sR_71_0, sR_71_1, sR_71_2, sR_71_3, sR_71_4, sT_73, sT_74, sT_75, sR_73_0, sR_73_1, sR_73_2, sR_73_3, sR_73_4, sR_73_5, sT_84, sT_85, sT_86, sT_87, sR_84_0, sR_84_1, sR_84_2, sR_84_3, sR_84_4, sR_84_5, sT_88, sT_89, sR_88_0, sT_90, sT_91, sR_90_0, t3, u3, r3, rm, k5, hi, k1, k2, k3, hin2, g8, er, hr, hin, hcl, g1]
    · have e : tlC (fun k => rI (sRnk A ((sAllR A).getD k 0) p)) (i + 1) q = tlC (fun k => rI (sRnk A ((sAllR A).getD k 0) p)) i q + if rI (sRnk A ((sAllR A).getD i 0) p) = q then 1 else 0 := rfl
      rw [e, hI_setI]
      by_cases z : q = rI (sRnk A ((sAllR A).getD i 0) p)
      · rw [if_pos ⟨rfl, z⟩, if_pos z.symm, z]
      · rw [if_neg (fun y => z y.2), if_neg (fun y => z y.symm), Nat.add_zero]
        exact c3 q hq
  · rintro st ⟨h3, rfl, f3, c3⟩
    refine ⟨_, ?_, h3, rfl, f3, c3⟩
    have hs3 := Fr_shape hs f3
    have k7 := (KF_83 kf f3).2.1
    have t3 := sT_77 hs3
    clear c3 c1 kf mk f3 f1
    generalize (sAllR A).length = LL at *
    simp (disch := first | assumption | omega) [lstp, lc_St_midst_1, lb_St_midst_1, lu_St_midst_1, j_meth, j_out, j_rok, j_pad, lg_sl, s_seq_w, isN_inl, isN_inr, s_if, jb, x_c, x_iloc, x_aloc, x_lloc, x_bin, x_un, o_add, o_sub, o_mul, o_and, o_or, o_xor, o_shl, o_shr, o_ushr, o_max, o_min, o_i2b, o_i2c, o_i2l, o_l2i, x_fld, j_fget, x_idx, j_aget, x_len, j_alen, x_ofb, x_ite, xs_nil, xs_cons, x_callv, x_calls, s_callv, s_calls, j_recv, j_ret, j_retv, b_cmp, b_and, b_or, b_not, b_ofi, b_ite, b_true, s_skip, s_set, j_ty, j_lset, j_kill, s_inc, s_fput, j_fput, s_fop, s_aput, j_aput, j_nar, s_aop, s_ret, s_retv, s_go, s_pop, x_linc, x_finc, Value.category, if_icmp.holds, List.flatMap_cons, List.flatMap_nil, List.length_cons, List.length_append, List.length_nil, List.set_cons_succ, List.set_cons_zero, List.getElem?_cons_succ, List.getElem?_cons_zero, List.replicate, ite_and', ite_or', ite_int', nI_leI, nI_ltI, nI_eq, nI_add, nI_1, pk_mul, nI_clamp, n_in', nI_pos', nI_pos, n_m1e, n_01, n_10, sT_1, sR_1_0, sR_1_1, sR_1_2, sR_1_3, sR_1_4, sR_1_5, sR_1_6, sR_1_7, sR_1_8, sR_1_9, sT_2, sT_3, sT_4, sT_5, sT_6, sT_7, sT_8, sT_9, sT_10, sT_11, sT_12, sT_13, sT_14, sR_2_1, sR_2_2, sR_2_3, sR_2_4, sR_2_5, sR_2_6, sR_2_7, sR_2_8, sR_2_9, sR_2_10, sR_2_11, sR_2_12, sT_15, sT_16, sT_17, sT_18, sT_19, sT_20, sT_21, sT_22, sT_23, sR_15_1, sR_15_2, sR_15_3, sR_15_4, sR_15_5, sR_15_6, sR_15_7, sR_15_8, sT_24, sT_25, sT_26, sT_27, sT_28, sT_29, sR_24_1, sR_24_2, sR_24_3, sR_24_4, sR_24_5, sT_71, sT_72, sR_71_0, sR_71_1, sR_71_2, sR_71_3, sR_71_4, sT_73, sT_74, sT_75, sR_73_0, sR_73_1, sR_73_2, sR_73_3, sR_73_4, sR_73_5, sT_84, sT_85, sT_86, sT_87, sR_84_0, sR_84_1, sR_84_2, sR_84_3, sR_84_4, sR_84_5, sT_88, sT_89, sR_88_0, sT_90, sT_91, sR_90_0, t3, k7]
theorem mdM_lt {A : AS} (w : WF A) (l : List Nat) (p : Nat) : mdM A l p < 2 ^ 20 := by
  unfold mdM
  cases h : mdO A l p with
  | none => exact Nat.pow_pos (by decide)
  | some q =>
    have h1 := fst1_lt h
    have h2 := ((w.2.2.2.1 p).2.2.2 _ (getD_mem' (d := 0) h1)).1
    have h20 := w.2.2.1.1
    exact Nat.pow_lt_pow_right (by decide) (by omega)
theorem o_S_mean {A : AS} {tx : List Nat} {rw : List Int32} {h : jHp} (r : RC A tx rw h) : ∃ h', f_S_mean [.ref 1] h = some (some (.int (vMean A)), h') ∧ RC A tx rw h' ∧ FC h h' := by
  have hs := r.1.1.1
  have w := r.1.1.2.1
  have hn := w.1.1
  have h20 := w.2.2.1.1
  have hlen := sAllR_len w
  obtain ⟨h1, e1, r1, fc1, kn1⟩ := e_St_know r
  obtain ⟨fa, fl, kf⟩ := KNW_KF kn1
  have hs1 := r1.1.1.1
  have hz := KF_z w kf
  have t77 := sT_77 hs1
  unfold vMean
  by_cases hl0 : (sAllR A).length = 0
  · rw [if_pos hl0]
    refine ⟨h1, ?_, r1, fc1⟩
    clear kf
    generalize sAllR A = l at *
    simp (disch := first | assumption | omega) [f_S_mean, body_S_mean, j_meth, j_out, j_rok, j_pad, lg_sl, s_seq_w, isN_inl, isN_inr, s_if, jb, x_c, x_iloc, x_aloc, x_lloc, x_bin, x_un, o_add, o_sub, o_mul, o_and, o_or, o_xor, o_shl, o_shr, o_ushr, o_max, o_min, o_i2b, o_i2c, o_i2l, o_l2i, x_fld, j_fget, x_idx, j_aget, x_len, j_alen, x_ofb, x_ite, xs_nil, xs_cons, x_callv, x_calls, s_callv, s_calls, j_recv, j_ret, j_retv, b_cmp, b_and, b_or, b_not, b_ofi, b_ite, b_true, s_skip, s_set, j_ty, j_lset, j_kill, s_inc, s_fput, j_fput, s_fop, s_aput, j_aput, j_nar, s_aop, s_ret, s_retv, s_go, s_pop, x_linc, x_finc, Value.category, if_icmp.holds, List.flatMap_cons, List.flatMap_nil, List.length_cons, List.length_append, List.length_nil, List.set_cons_succ, List.set_cons_zero, List.getElem?_cons_succ, List.getElem?_cons_zero, List.replicate, ite_and', ite_or', ite_int', nI_leI, nI_ltI, nI_eq, nI_add, nI_1, pk_mul, nI_clamp, n_in', nI_pos', nI_pos, n_m1e, n_01, n_10, sT_1, sR_1_0, sR_1_1, sR_1_2, sR_1_3, sR_1_4, sR_1_5, sR_1_6, sR_1_7, sR_1_8, sR_1_9, sT_2, sT_3, sT_4, sT_5, sT_6, sT_7, sT_8, sT_9, sT_10, sT_11, sT_12, sT_13, sT_14, sR_2_1, sR_2_2, sR_2_3, sR_2_4, sR_2_5, sR_2_6, sR_2_7, sR_2_8, sR_2_9, sR_2_10, sR_2_11, sR_2_12, sT_15, sT_16, sT_17, sT_18, sT_19, sT_20, sT_21, sT_22, sT_23, sR_15_1, sR_15_2, sR_15_3, sR_15_4, sR_15_5, sR_15_6, sR_15_7, sR_15_8, sT_24, sT_25, sT_26, sT_27, sT_28, sT_29, sR_24_1, sR_24_2, sR_24_3, sR_24_4, sR_24_5, sT_71, sT_72, sR_71_0, sR_71_1, sR_71_2, sR_71_3, sR_71_4, sT_73, sT_74, sT_75, sR_73_0, sR_73_1, sR_73_2, sR_73_3, sR_73_4, sR_73_5, sT_84, sT_85, sT_86, sT_87, sR_84_0, sR_84_1, sR_84_2, sR_84_3, sR_84_4, sR_84_5, sT_88, sT_89, sR_88_0, sT_90, sT_91, sR_90_0, e1, sT_77, hz, hl0]
  rw [if_neg hl0]
  have hL := loop_wp (lb := 1) (lc := 2) (c := lc_S_mean_1) (b := lb_S_mean_1) (u := lu_S_mean_1) (aNp A)
    (fun i st => ∃ h', st = ([.ref 1, .int (nI (nfo (fun p m => if sSg A p then sMnP A (sAllR A) p m else m) i 0)), .int (nI i)], h') ∧ Fr W83 h1 h')
    (fun r => ∃ h', r = (.inl 0, ([.ref 1, .int (nI (sMn A (sAllR A))), .int (nI (aNp A))], h')) ∧ Fr W83 h1 h')
    ?_ ?_ ([.ref 1, .int (nI 0), .int (nI 0)], h1) ⟨h1, rfl, Fr_refl _ _⟩
  · obtain ⟨q, e2, h2, rfl, f2⟩ := hL
    have fin := RC_83 r1 f2
    refine ⟨h2, ?_, fin.1, FC_trans fc1 fin.2⟩
    have hs2 := Fr_shape hs1 f2
    simp only [nI_0] at e2
    clear kf kn1 fin
    generalize sMn A (sAllR A) = R at *
    generalize (sAllR A).length = LL at *
    simp (disch := first | assumption | omega) [f_S_mean, body_S_mean, j_meth, j_out, j_rok, j_pad, lg_sl, s_seq_w, isN_inl, isN_inr, s_if, jb, x_c, x_iloc, x_aloc, x_lloc, x_bin, x_un, o_add, o_sub, o_mul, o_and, o_or, o_xor, o_shl, o_shr, o_ushr, o_max, o_min, o_i2b, o_i2c, o_i2l, o_l2i, x_fld, j_fget, x_idx, j_aget, x_len, j_alen, x_ofb, x_ite, xs_nil, xs_cons, x_callv, x_calls, s_callv, s_calls, j_recv, j_ret, j_retv, b_cmp, b_and, b_or, b_not, b_ofi, b_ite, b_true, s_skip, s_set, j_ty, j_lset, j_kill, s_inc, s_fput, j_fput, s_fop, s_aput, j_aput, j_nar, s_aop, s_ret, s_retv, s_go, s_pop, x_linc, x_finc, Value.category, if_icmp.holds, List.flatMap_cons, List.flatMap_nil, List.length_cons, List.length_append, List.length_nil, List.set_cons_succ, List.set_cons_zero, List.getElem?_cons_succ, List.getElem?_cons_zero, List.replicate, ite_and', ite_or', ite_int', nI_leI, nI_ltI, nI_eq, nI_add, nI_1, pk_mul, nI_clamp, n_in', nI_pos', nI_pos, n_m1e, n_01, n_10, sT_1, sR_1_0, sR_1_1, sR_1_2, sR_1_3, sR_1_4, sR_1_5, sR_1_6, sR_1_7, sR_1_8, sR_1_9, sT_2, sT_3, sT_4, sT_5, sT_6, sT_7, sT_8, sT_9, sT_10, sT_11, sT_12, sT_13, sT_14, sR_2_1, sR_2_2, sR_2_3, sR_2_4, sR_2_5, sR_2_6, sR_2_7, sR_2_8, sR_2_9, sR_2_10, sR_2_11, sR_2_12, sT_15, sT_16, sT_17, sT_18, sT_19, sT_20, sT_21, sT_22, sT_23, sR_15_1, sR_15_2, sR_15_3, sR_15_4, sR_15_5, sR_15_6, sR_15_7, sR_15_8, sT_24, sT_25, sT_26, sT_27, sT_28, sT_29, sR_24_1, sR_24_2, sR_24_3, sR_24_4, sR_24_5, sT_71, sT_72, sR_71_0, sR_71_1, sR_71_2, sR_71_3, sR_71_4, sT_73, sT_74, sT_75, sR_73_0, sR_73_1, sR_73_2, sR_73_3, sR_73_4, sR_73_5, sT_84, sT_85, sT_86, sT_87, sR_84_0, sR_84_1, sR_84_2, sR_84_3, sR_84_4, sR_84_5, sT_88, sT_89, sR_88_0, sT_90, sT_91, sR_90_0, e1, sT_77, hz, hl0, nI_0, e2]
  · rintro i st hi ⟨h2, rfl, f2⟩
    left
    have fin := RC_83 r1 f2
    have mk2 := fin.1.1
    have hs2 := mk2.1.1
    have kf2 := KF_83 kf f2
    have c0 := mk2.1.2.2.2.1
    have es := e_P_isSingle hs2 w mk2.1.2.2.2 (nI i)
    rw [nI_clamp (by omega), n_in (by omega)] at es
    obtain ⟨h3, e3, f3⟩ := e_St_midst mk2 kf2 hi
    have hst : nfo (fun p m => if sSg A p then sMnP A (sAllR A) p m else m) (i + 1) 0 = if sSg A i then sMnP A (sAllR A) i (nfo (fun p m => if sSg A p then sMnP A (sAllR A) p m else m) i 0) else nfo (fun p m => if sSg A p then sMnP A (sAllR A) p m else m) i 0 := rfl
    rw [hst]
    have hs3 := Fr_shape hs2 f3
    generalize nfo (fun p m => if sSg A p then sMnP A (sAllR A) p m else m) i 0 = m at *
    unfold sSg
    have h10 : ((1 : Int32) = 0) = False := by decide
    cases hsg : sCpl A i with
    | some c =>
      refine ⟨([.ref 1, .int (nI m), .int (nI (i + 1))], h2), ?_, h2, rfl, f2⟩
      rw [hsg] at es
      clear kf kn1 fin kf2 mk2 e3 hz hl0
      simp at es
      simp (disch := first | assumption | omega) [lstp, lc_S_mean_1, lb_S_mean_1, lu_S_mean_1, j_meth, j_out, j_rok, j_pad, lg_sl, s_seq_w, isN_inl, isN_inr, s_if, jb, x_c, x_iloc, x_aloc, x_lloc, x_bin, x_un, o_add, o_sub, o_mul, o_and, o_or, o_xor, o_shl, o_shr, o_ushr, o_max, o_min, o_i2b, o_i2c, o_i2l, o_l2i, x_fld, j_fget, x_idx, j_aget, x_len, j_alen, x_ofb, x_ite, xs_nil, xs_cons, x_callv, x_calls, s_callv, s_calls, j_recv, j_ret, j_retv, b_cmp, b_and, b_or, b_not, b_ofi, b_ite, b_true, s_skip, s_set, j_ty, j_lset, j_kill, s_inc, s_fput, j_fput, s_fop, s_aput, j_aput, j_nar, s_aop, s_ret, s_retv, s_go, s_pop, x_linc, x_finc, Value.category, if_icmp.holds, List.flatMap_cons, List.flatMap_nil, List.length_cons, List.length_append, List.length_nil, List.set_cons_succ, List.set_cons_zero, List.getElem?_cons_succ, List.getElem?_cons_zero, List.replicate, ite_and', ite_or', ite_int', nI_leI, nI_ltI, nI_eq, nI_add, nI_1, pk_mul, nI_clamp, n_in', nI_pos', nI_pos, n_m1e, n_01, n_10, sT_1, sR_1_0, sR_1_1, sR_1_2, sR_1_3, sR_1_4, sR_1_5, sR_1_6, sR_1_7, sR_1_8, sR_1_9, sT_2, sT_3, sT_4, sT_5, sT_6, sT_7, sT_8, sT_9, sT_10, sT_11, sT_12, sT_13, sT_14, sR_2_1, sR_2_2, sR_2_3, sR_2_4, sR_2_5, sR_2_6, sR_2_7, sR_2_8, sR_2_9, sR_2_10, sR_2_11, sR_2_12, sT_15, sT_16, sT_17, sT_18, sT_19, sT_20, sT_21, sT_22, sT_23, sR_15_1, sR_15_2, sR_15_3, sR_15_4, sR_15_5, sR_15_6, sR_15_7, sR_15_8, sT_24, sT_25, sT_26, sT_27, sT_28, sT_29, sR_24_1, sR_24_2, sR_24_3, sR_24_4, sR_24_5, sT_71, sT_72, sR_71_0, sR_71_1, sR_71_2, sR_71_3, sR_71_4, sT_73, sT_74, sT_75, sR_73_0, sR_73_1, sR_73_2, sR_73_3, sR_73_4, sR_73_5, sT_84, sT_85, sT_86, sT_87, sR_84_0, sR_84_1, sR_84_2, sR_84_3, sR_84_4, sR_84_5, sT_88, sT_89, sR_88_0, sT_90, sT_91, sR_90_0, c0, hi, es]
    | none =>
      rw [if_pos ⟨by simpa using hi, hsg⟩] at es
      rw [mdM_ok]
      refine ⟨([.ref 1, .int (nI (m ||| mdM A (sAllR A) i)), .int (nI (i + 1))], h3), ?_, h3, rfl, Fr_trans f2 f3⟩
      clear kf kn1 fin kf2 mk2 hz hl0
      generalize mdM A (sAllR A) i = M at *
      simp (disch := first | assumption | omega) [lstp, lc_S_mean_1, lb_S_mean_1, lu_S_mean_1, j_meth, j_out, j_rok, j_pad, lg_sl, s_seq_w, isN_inl, isN_inr, s_if, jb, x_c, x_iloc, x_aloc, x_lloc, x_bin, x_un, o_add, o_sub, o_mul, o_and, o_or, o_xor, o_shl, o_shr, o_ushr, o_max, o_min, o_i2b, o_i2c, o_i2l, o_l2i, x_fld, j_fget, x_idx, j_aget, x_len, j_alen, x_ofb, x_ite, xs_nil, xs_cons, x_callv, x_calls, s_callv, s_calls, j_recv, j_ret, j_retv, b_cmp, b_and, b_or, b_not, b_ofi, b_ite, b_true, s_skip, s_set, j_ty, j_lset, j_kill, s_inc, s_fput, j_fput, s_fop, s_aput, j_aput, j_nar, s_aop, s_ret, s_retv, s_go, s_pop, x_linc, x_finc, Value.category, if_icmp.holds, List.flatMap_cons, List.flatMap_nil, List.length_cons, List.length_append, List.length_nil, List.set_cons_succ, List.set_cons_zero, List.getElem?_cons_succ, List.getElem?_cons_zero, List.replicate, ite_and', ite_or', ite_int', nI_leI, nI_ltI, nI_eq, nI_add, nI_1, pk_mul, nI_clamp, n_in', nI_pos', nI_pos, n_m1e, n_01, n_10, sT_1, sR_1_0, sR_1_1, sR_1_2, sR_1_3, sR_1_4, sR_1_5, sR_1_6, sR_1_7, sR_1_8, sR_1_9, sT_2, sT_3, sT_4, sT_5, sT_6, sT_7, sT_8, sT_9, sT_10, sT_11, sT_12, sT_13, sT_14, sR_2_1, sR_2_2, sR_2_3, sR_2_4, sR_2_5, sR_2_6, sR_2_7, sR_2_8, sR_2_9, sR_2_10, sR_2_11, sR_2_12, sT_15, sT_16, sT_17, sT_18, sT_19, sT_20, sT_21, sT_22, sT_23, sR_15_1, sR_15_2, sR_15_3, sR_15_4, sR_15_5, sR_15_6, sR_15_7, sR_15_8, sT_24, sT_25, sT_26, sT_27, sT_28, sT_29, sR_24_1, sR_24_2, sR_24_3, sR_24_4, sR_24_5, sT_71, sT_72, sR_71_0, sR_71_1, sR_71_2, sR_71_3, sR_71_4, sT_73, sT_74, sT_75, sR_73_0, sR_73_1, sR_73_2, sR_73_3, sR_73_4, sR_73_5, sT_84, sT_85, sT_86, sT_87, sR_84_0, sR_84_1, sR_84_2, sR_84_3, sR_84_4, sR_84_5, sT_88, sT_89, sR_88_0, sT_90, sT_91, sR_90_0, c0, hi, es, h10, sT_77, e3, n_or]
  · rintro st ⟨h2, rfl, f2⟩
    refine ⟨_, ?_, h2, rfl, f2⟩
    have c0 := (RC_83 r1 f2).1.1.1.2.2.2.1
    have hs2 := Fr_shape hs1 f2
    clear kf kn1 hz hl0
    unfold sMn
    simp (disch := first | assumption | omega) [lstp, lc_S_mean_1, lb_S_mean_1, lu_S_mean_1, j_meth, j_out, j_rok, j_pad, lg_sl, s_seq_w, isN_inl, isN_inr, s_if, jb, x_c, x_iloc, x_aloc, x_lloc, x_bin, x_un, o_add, o_sub, o_mul, o_and, o_or, o_xor, o_shl, o_shr, o_ushr, o_max, o_min, o_i2b, o_i2c, o_i2l, o_l2i, x_fld, j_fget, x_idx, j_aget, x_len, j_alen, x_ofb, x_ite, xs_nil, xs_cons, x_callv, x_calls, s_callv, s_calls, j_recv, j_ret, j_retv, b_cmp, b_and, b_or, b_not, b_ofi, b_ite, b_true, s_skip, s_set, j_ty, j_lset, j_kill, s_inc, s_fput, j_fput, s_fop, s_aput, j_aput, j_nar, s_aop, s_ret, s_retv, s_go, s_pop, x_linc, x_finc, Value.category, if_icmp.holds, List.flatMap_cons, List.flatMap_nil, List.length_cons, List.length_append, List.length_nil, List.set_cons_succ, List.set_cons_zero, List.getElem?_cons_succ, List.getElem?_cons_zero, List.replicate, ite_and', ite_or', ite_int', nI_leI, nI_ltI, nI_eq, nI_add, nI_1, pk_mul, nI_clamp, n_in', nI_pos', nI_pos, n_m1e, n_01, n_10, sT_1, sR_1_0, sR_1_1, sR_1_2, sR_1_3, sR_1_4, sR_1_5, sR_1_6, sR_1_7, sR_1_8, sR_1_9, sT_2, sT_3, sT_4, sT_5, sT_6, sT_7, sT_8, sT_9, sT_10, sT_11, sT_12, sT_13, sT_14, sR_2_1, sR_2_2, sR_2_3, sR_2_4, sR_2_5, sR_2_6, sR_2_7, sR_2_8, sR_2_9, sR_2_10, sR_2_11, sR_2_12, sT_15, sT_16, sT_17, sT_18, sT_19, sT_20, sT_21, sT_22, sT_23, sR_15_1, sR_15_2, sR_15_3, sR_15_4, sR_15_5, sR_15_6, sR_15_7, sR_15_8, sT_24, sT_25, sT_26, sT_27, sT_28, sT_29, sR_24_1, sR_24_2, sR_24_3, sR_24_4, sR_24_5, sT_71, sT_72, sR_71_0, sR_71_1, sR_71_2, sR_71_3, sR_71_4, sT_73, sT_74, sT_75, sR_73_0, sR_73_1, sR_73_2, sR_73_3, sR_73_4, sR_73_5, sT_84, sT_85, sT_86, sT_87, sR_84_0, sR_84_1, sR_84_2, sR_84_3, sR_84_4, sR_84_5, sT_88, sT_89, sR_88_0, sT_90, sT_91, sR_90_0, c0]
