/-! the reference's calls: what stays, the ROW, ALL -/
def cT (a k : Nat) : Prop := a = 124 ∨ a = 125 ∨ (a = 98 ∧ (k = 30 ∨ k = 32 ∨ k = 57 ∨ k = 60 ∨ k = 61))
def RTx (tx : List Nat) (h : jHp) : Prop := (tx.length ≤ 100 ∧ ∀ x ∈ tx, x < 256) ∧ hI h 98 30 = nI tx.length ∧ ∀ i, i < tx.length → hI h 124 i = (nI (tx.getD i 0)).toInt8.toInt32
def RRw (rw : List Int32) (h : jHp) : Prop := rw.length ≤ 40 ∧ hI h 98 32 = nI rw.length ∧ ∀ i, i < rw.length → hI h 125 i = rw.getD i 0
def RMX (A : AS) (tx : List Nat) (rw : List Int32) (h : jHp) : Prop := RMK A h ∧ RMT A h ∧ RTx tx h ∧ RRw rw h ∧ ROf none none none h
def WM (a _ : Nat) : Prop := 98 ≤ a ∧ a ≤ 140
theorem RTx_eq {tx : List Nat} {h h' : jHp} (r : RTx tx h) (e1 : hI h' 98 30 = hI h 98 30) (e2 : ∀ k, hI h' 124 k = hI h 124 k) : RTx tx h' := ⟨r.1, by rw [e1]; exact r.2.1, fun i hi => by rw [e2]; exact r.2.2 i hi⟩
theorem RRw_eq {rw : List Int32} {h h' : jHp} (r : RRw rw h) (e1 : hI h' 98 32 = hI h 98 32) (e2 : ∀ k, hI h' 125 k = hI h 125 k) : RRw rw h' := ⟨r.1, by rw [e1]; exact r.2.1, fun i hi => by rw [e2]; exact r.2.2 i hi⟩
theorem ROf0_eq {h h' : jHp} (r : ROf none none none h) (e : ∀ k, (k = 57 ∨ k = 60 ∨ k = 61) → hI h' 98 k = hI h 98 k) : ROf none none none h' := ⟨by rw [e 57 (by simp)]; exact r.1, fun q hq => (by cases hq), by rw [e 60 (by simp)]; exact r.2.2.1, by rw [e 61 (by simp)]; exact r.2.2.2⟩
theorem RMX_of {A : AS} {tx : List Nat} {rw : List Int32} {h h1 : jHp} {W : Nat → Nat → Prop} (r : RMX A tx rw h) (m : MW W A h h1) (hW : ∀ a k, W a k → ¬ cT a k) : RMX A tx rw h1 := by
  have e : ∀ a k, cT a k → hI h1 a k = hI h a k := fun a k q => Fr_I m.1 fun z => hW a k z q
  refine ⟨m.2.1, m.2.2, RTx_eq r.2.2.1 (e _ _ (by simp [cT])) (fun k => e _ _ (by simp [cT])), RRw_eq r.2.2.2.1 (e _ _ (by simp [cT])) (fun k => e _ _ (by simp [cT])), ROf0_eq r.2.2.2.2 (fun k hk => e _ _ (by unfold cT; omega))⟩
def W33 (a k : Nat) : Prop := a = 98 ∧ k = 33
theorem MW_33 {A : AS} {h : jHp} (k : RMK A h) (t : RMT A h) (v : Int32) : MW W33 A h (hSetI h 98 33 v) := MW_step (V := W33) (MW_refl k t) (Fr_set _ ⟨rfl, rfl⟩) (by
  intro a k hv
  unfold W33 at hv ⊢
  unfold cM
  omega)
theorem RMX_33 {A : AS} {tx : List Nat} {rw : List Int32} {h : jHp} (r : RMX A tx rw h) (v : Int32) : RMX A tx rw (hSetI h 98 33 v) := RMX_of r (MW_33 r.1 r.2.1 v) (by
  intro a k hv
  unfold W33 at hv
  unfold cT
  omega)
theorem Fr_33 {h : jHp} (v : Int32) : Fr WM h (hSetI h 98 33 v) := Fr_set _ (by unfold WM; omega)
def Wrw (a k : Nat) : Prop := a = 125 ∨ (a = 98 ∧ k = 32)
theorem e_M_tell {rw : List Int32} {h : jHp} (hs : Shape h) (r : RRw rw h) (hl : rw.length < 40) (v : Int32) : ∃ h', f_M_tell [.ref 98, .int v] h = some (none, h') ∧ RRw (rw ++ [v]) h' ∧ Fr Wrw h h' := by
  obtain ⟨r1, r2, r3⟩ := r
  refine ⟨hSetI (hSetI h 125 rw.length v) 98 32 (nI (rw.length + 1)), ?_, ⟨?_, ?_, ?_⟩, Fr_trans (Fr_set _ (Or.inl rfl)) (Fr_set _ (Or.inr ⟨rfl, rfl⟩))⟩
  · have : hI (hSetI h 125 rw.length v) 98 32 = nI rw.length := by rw [hI_setI, if_neg (by omega)]; exact r2
    have hs2 : Shape (hSetI h 125 rw.length v) := Fr_shape hs (Fr_set (W := Wrw) _ (Or.inl rfl))
    generalize hg : hSetI h 125 rw.length v = h2 at *
    simp (disch := first | assumption | omega) [f_M_tell, body_M_tell, j_meth, j_out, j_rok, j_pad, lg_sl, s_seq_w, isN_inl, isN_inr, s_if, jb, x_c, x_iloc, x_aloc, x_lloc, x_bin, x_un, o_add, o_sub, o_mul, o_and, o_or, o_xor, o_shl, o_shr, o_ushr, o_max, o_min, o_i2b, o_i2c, o_i2l, o_l2i, x_fld, j_fget, x_idx, j_aget, x_len, j_alen, x_ofb, x_ite, xs_nil, xs_cons, x_callv, x_calls, s_callv, s_calls, j_recv, j_ret, j_retv, b_cmp, b_and, b_or, b_not, b_ofi, b_ite, b_true, s_skip, s_set, j_ty, j_lset, j_kill, s_inc, s_fput, j_fput, s_fop, s_aput, j_aput, j_nar, s_aop, s_ret, s_retv, s_go, s_pop, x_linc, x_finc, Value.category, if_icmp.holds, List.flatMap_cons, List.flatMap_nil, List.length_cons, List.length_append, List.length_nil, List.set_cons_succ, List.set_cons_zero, List.getElem?_cons_succ, List.getElem?_cons_zero, List.replicate, ite_and', ite_or', ite_int', nI_leI, nI_ltI, nI_eq, nI_add, nI_1, pk_mul, nI_clamp, n_in', nI_pos', nI_pos, n_m1e, n_01, n_10, sT_98, sT_99, sT_100, sT_101, sT_102, sT_103, sT_104, sT_105, sT_106, sT_107, sT_108, sT_109, sT_110, sT_111, sT_112, sT_113, sT_114, sT_115, sT_116, sT_117, sT_118, sT_119, sT_120, sT_121, sT_122, sT_123, sT_124, sT_125, sT_126, sT_127, sT_128, sT_129, sT_130, sT_131, sT_132, sT_133, sT_134, sT_135, sT_136, sT_137, sT_138, sT_139, sT_140, sR_98_1, sR_98_4, sR_98_5, sR_98_6, sR_98_7, sR_98_8, sR_98_9, sR_98_10, sR_98_12, sR_98_13, sR_98_14, sR_98_15, sR_98_16, sR_98_17, sR_98_18, sR_98_19, sR_98_20, sR_98_21, sR_98_22, sR_98_23, sR_98_24, sR_98_25, sR_98_26, sR_98_27, sR_98_28, sR_98_29, sR_98_31, sR_98_34, sR_98_35, sR_98_36, sR_98_42, sR_98_44, sR_98_45, sR_98_47, sR_98_49, sR_98_51, sR_98_56, sR_98_58, sR_98_62, sR_98_65, sR_98_66, sR_98_69, r2, hg, this]
  · rw [List.length_append, List.length_singleton]; omega
  · rw [hI_setI, if_pos ⟨rfl, rfl⟩, List.length_append, List.length_singleton]
  · intro i hi
    rw [List.length_append, List.length_singleton] at hi
    rw [hI_setI, if_neg (by omega), hI_setI]
    by_cases e : i = rw.length
    · subst e; simp
    · rw [if_neg (by omega), r3 i (by omega)]
      simp only [List.getD_eq_getElem?_getD]
      rw [List.getElem?_append_left (by omega)]
/-- the ROW made empty -/
theorem RRw_0 {h : jHp} : RRw [] (hSetI h 98 32 (nI 0)) := ⟨by simp, by rw [hI_setI, if_pos ⟨rfl, rfl⟩]; rfl, fun i hi => by simp at hi⟩
theorem MW_rw {A : AS} {W : Nat → Nat → Prop} {h h1 h2 : jHp} (a : MW W A h h1) (f : Fr Wrw h1 h2) (hW : ∀ a k, Wrw a k → W a k) : MW W A h h2 := MW_step a f fun x y hv => by
  refine ⟨hW x y hv, ?_⟩
  unfold Wrw at hv
  unfold cM
  omega
/-- a call that tells the ROW anew -/
theorem RMX_rw {A : AS} {tx : List Nat} {rw rw' : List Int32} {h h1 : jHp} {W : Nat → Nat → Prop} (r : RMX A tx rw h) (m : MW W A h h1) (hW : ∀ a k, W a k → ¬ cT a k ∨ Wrw a k) (r' : RRw rw' h1) : RMX A tx rw' h1 := by
  have e : ∀ a k, cT a k → ¬ Wrw a k → hI h1 a k = hI h a k := fun a k q q2 => Fr_I m.1 fun z => by
    rcases hW a k z with y | y
    · exact y q
    · exact q2 y
  refine ⟨m.2.1, m.2.2, RTx_eq r.2.2.1 (e _ _ (by simp [cT]) (by simp [Wrw])) (fun k => e _ _ (by simp [cT]) (by simp [Wrw])), r', ROf0_eq r.2.2.2.2 (fun k hk => e _ _ (by unfold cT; omega) (by unfold Wrw; omega))⟩
-- how many ways there are to go
theorem genL_len {A : AS} : ∀ n p S, (genL A (n + 1) p S).length = (1 + cntN (sElg A p) (aNb A)) * (genL A n (p + 1) S).length := by
  have key : ∀ n, (∀ p S S', (genL A n p S).length = (genL A n p S').length) ∧ ∀ p S i, (genB A n p S i).length = (1 + cntN (sElg A p) i) * (genL A n (p + 1) S).length := by
    intro n
    induction n with
    | zero =>
      refine ⟨fun p S S' => rfl, fun p S i => ?_⟩
      induction i with
      | zero => simp [genB, nfo, cntN]
      | succ i ih =>
        rw [genB_s, List.length_append, ih]
        have h2 : cntN (sElg A p) (i + 1) = if sElg A p i then cntN (sElg A p) i + 1 else cntN (sElg A p) i := rfl
        rw [h2]
        split
        · simp [genL]; omega
        · simp
    | succ n ih =>
      have hb := ih.2
      have hl : ∀ p S S', (genL A (n + 1) p S).length = (genL A (n + 1) p S').length := by
        intro p S S'
        have e1 : (genL A (n + 1) p S).length = (genB A n p S (aNb A)).length := rfl
        have e2 : (genL A (n + 1) p S').length = (genB A n p S' (aNb A)).length := rfl
        rw [e1, e2, hb, hb, ih.1 (p + 1) S S']
      refine ⟨hl, fun p S i => ?_⟩
      induction i with
      | zero => simp [genB, nfo, cntN]
      | succ i ih2 =>
        rw [genB_s, List.length_append, ih2]
        have h2 : cntN (sElg A p) (i + 1) = if sElg A p i then cntN (sElg A p) i + 1 else cntN (sElg A p) i := rfl
        rw [h2]
        split
        · rw [hl (p + 1) (S ||| 2 ^ i) S, show 1 + (cntN (sElg A p) i + 1) = (1 + cntN (sElg A p) i) + 1 by omega, Nat.add_mul (1 + cntN (sElg A p) i) 1, Nat.one_mul]
        · simp
  intro n p S
  exact (key n).2 p S (aNb A)
theorem cntN_le2 {p q : Nat → Bool} (h : ∀ i, p i = true → q i = true) : ∀ n, cntN p n ≤ cntN q n := by
  intro n
  induction n with
  | zero => exact Nat.le_refl _
  | succ n ih =>
    have h1 : cntN p (n + 1) = if p n then cntN p n + 1 else cntN p n := rfl
    have h2 : cntN q (n + 1) = if q n then cntN q n + 1 else cntN q n := rfl
    rw [h1, h2]
    by_cases e : p n = true
    · rw [if_pos e, if_pos (h n e)]; omega
    · rw [if_neg e]; split <;> omega
theorem sumN_sh (f : Nat → Nat) : ∀ n, sumN f (n + 1) = f 0 + sumN (fun i => f (i + 1)) n := by
  intro n
  induction n with
  | zero => simp [sumN, nfo]
  | succ n ih => rw [sumN_s, ih, sumN_s]; omega
theorem sum_cnt (f : Nat → Nat) (m : Nat) : ∀ n, sumN (fun q => cntN (fun b => f b == q) n) m ≤ n := by
  intro n
  induction n with
  | zero =>
    have : ∀ m, sumN (fun q => cntN (fun b => f b == q) 0) m = 0 := by
      intro m
      induction m with
      | zero => rfl
      | succ m ih => rw [sumN_s, ih]; rfl
    rw [this]; exact Nat.le_refl _
  | succ n ih =>
    have h1 : ∀ q, cntN (fun b => f b == q) (n + 1) = cntN (fun b => f b == q) n + if f n == q then 1 else 0 := by
      intro q
      have : cntN (fun b => f b == q) (n + 1) = if f n == q then cntN (fun b => f b == q) n + 1 else cntN (fun b => f b == q) n := rfl
      rw [this]; split <;> rfl
    have h2 : ∀ m, sumN (fun q => cntN (fun b => f b == q) (n + 1)) m = sumN (fun q => cntN (fun b => f b == q) n) m + sumN (fun q => if f n == q then 1 else 0) m := by
      intro m
      induction m with
      | zero => rfl
      | succ m ih => rw [sumN_s, sumN_s, sumN_s, ih, h1]; omega
    have h3 : ∀ m, sumN (fun q => if f n == q then 1 else 0) m = if f n < m then 1 else 0 := by
      intro m
      induction m with
      | zero => simp [sumN, nfo]
      | succ m ih =>
        rw [sumN_s, ih]
        by_cases e : f n = m
        · simp [e]
        · have : (f n == m) = false := by simpa using e
          rw [this]
          by_cases e2 : f n < m
          · have e3 : f n < m + 1 := by omega
            simp [e2, e3]
          · have e3 : ¬ f n < m + 1 := by omega
            simp [e2, e3]
    rw [h2, h3]
    split <;> omega
theorem pw_34 : ∀ c, c ≤ 5 → (1 + c) * 64 * 3 ^ c ≤ 108 * 4 ^ c := by decide
theorem pw_fin : ∀ n, n ≤ 7 → ∀ t, t ≤ 20 → 108 ^ n * 4 ^ t ≤ 12288 * (64 ^ n * 3 ^ t) := by decide
theorem genL_le {A : AS} (w : WF A) : ∀ n p S, (genL A n p S).length * (64 ^ n * 3 ^ (sumN (fun i => cntN (fun b => aPe A b == p + i) (aNb A)) n)) ≤ 108 ^ n * 4 ^ (sumN (fun i => cntN (fun b => aPe A b == p + i) (aNb A)) n) := by
  intro n
  induction n with
  | zero => intro p S; simp [genL, sumN, nfo]
  | succ n ih =>
    intro p S
    have h1 := ih (p + 1) S
    have h5 := w.2.2.1.2.2.2 p
    have hle : cntN (sElg A p) (aNb A) ≤ cntN (fun b => aPe A b == p) (aNb A) := cntN_le2 (fun i hi => by
      unfold sElg at hi
      simp only [Bool.and_eq_true] at hi
      exact hi.1) _
    have h34 := pw_34 _ h5
    rw [genL_len, sumN_sh]
    have hfn : (fun i => cntN (fun b => aPe A b == p + (i + 1)) (aNb A)) = fun i => cntN (fun b => aPe A b == p + 1 + i) (aNb A) := by
      funext i
      rw [show p + (i + 1) = p + 1 + i by omega]
    rw [hfn, Nat.add_zero]
    generalize sumN (fun i => cntN (fun b => aPe A b == p + 1 + i) (aNb A)) n = t at *
    generalize cntN (sElg A p) (aNb A) = e at *
    generalize cntN (fun b => aPe A b == p) (aNb A) = c at *
    generalize (genL A n (p + 1) S).length = g at *
    have h2 : (1 + e) * 64 * 3 ^ c ≤ 108 * 4 ^ c := Nat.le_trans (Nat.mul_le_mul_right _ (Nat.mul_le_mul_right _ (by omega))) h34
    have h3 := Nat.mul_le_mul h2 h1
    rw [Nat.pow_succ, Nat.pow_add, Nat.pow_succ 108, Nat.pow_add 4]
    have e1 : (1 + e) * g * (64 ^ n * 64 * (3 ^ c * 3 ^ t)) = (1 + e) * 64 * 3 ^ c * (g * (64 ^ n * 3 ^ t)) := by ac_rfl
    have e2 : 108 ^ n * 108 * (4 ^ c * 4 ^ t) = 108 * 4 ^ c * (108 ^ n * 4 ^ t) := by ac_rfl
    rw [e1, e2]
    exact h3
theorem genL_12288 {A : AS} (w : WF A) : (genL A (aNp A) 0 0).length ≤ 12288 := by
  have h1 := genL_le w (aNp A) 0 0
  have h2 := sum_cnt (aPe A) (aNp A) (aNb A)
  have h20 := w.2.2.1.1
  simp only [Nat.zero_add] at h1
  generalize sumN (fun q => cntN (fun b => aPe A b == q) (aNb A)) (aNp A) = t at *
  have h3 := pw_fin (aNp A) w.1.1 t (by omega)
  have h4 := Nat.le_trans h1 h3
  exact Nat.le_of_mul_le_mul_right h4 (Nat.mul_pos (Nat.pow_pos (by decide)) (Nat.pow_pos (by decide)))
def sAllR (A : AS) : List Nat := (genL A (aNp A) 0 0).foldl (gtF A) []
theorem sAllR_len {A : AS} (w : WF A) : (sAllR A).length ≤ 12288 := by
  have h1 := gtF_fold_len A (genL A (aNp A) 0 0) []
  have h2 := genL_12288 w
  unfold sAllR
  simp only [List.length_nil] at h1
  omega
theorem e_M_findAll {A : AS} {h0 h : jHp} (hX : MW Wgt A h0 h) : ∃ h', f_M_findAll [.ref 98] h = some (none, h') ∧ MW Wgt A h0 h' ∧ RSt (sAllR A) h' := by
  have k := hX.2.1
  have hs := k.1
  have w := k.2.1
  have hn := w.1.1
  have hX1 : MW Wgt A h0 (hSetI (hSetI h 98 63 (nI 0)) 98 64 (nI 0)) := MW_step (V := fun a k => a = 98 ∧ (k = 63 ∨ k = 64)) hX (Fr_trans (Fr_set _ ⟨rfl, Or.inl rfl⟩) (Fr_set _ ⟨rfl, Or.inr rfl⟩)) (by
    intro a k hv
    unfold Wgt Wjd Wmk cM
    omega)
  have rs1 : RSt [] (hSetI (hSetI h 98 63 (nI 0)) 98 64 (nI 0)) := ⟨by rw [hI_setI, if_neg (by omega), hI_setI, if_pos ⟨rfl, rfl⟩]; rfl, fun k hk => (by simp at hk), fun x hx => by cases hx⟩
  have g1 : hI (hSetI (hSetI h 98 63 (nI 0)) 98 64 (nI 0)) 98 64 = nI (false : Bool).toNat := by rw [hI_setI, if_pos ⟨rfl, rfl⟩]; rfl
  have hlen := genL_12288 w
  generalize hh : hSetI (hSetI h 98 63 (nI 0)) 98 64 (nI 0) = h1 at *
  obtain ⟨h2, e2, hX2, rs2, -⟩ := e_M_goThrough (A := A) (h0 := h0) false (aNp A) 10 (by omega) 0 0 h1 [] false (by omega) (by decide) hX1 (fun _ => rs1) g1 (fun _ => by simp only [List.length_nil]; omega)
  refine ⟨h2, ?_, hX2, rs2 rfl⟩
  have hs1 := hX1.2.1.1
  have hh' : hSetI (hSetI h 98 63 0) 98 64 0 = h1 := by rw [← hh]; simp only [nI_0]
  simp only [nI_0, Bool.toNat_false] at e2
  simp (disch := first | assumption | omega) [f_M_findAll, body_M_findAll, j_meth, j_out, j_rok, j_pad, lg_sl, s_seq_w, isN_inl, isN_inr, s_if, jb, x_c, x_iloc, x_aloc, x_lloc, x_bin, x_un, o_add, o_sub, o_mul, o_and, o_or, o_xor, o_shl, o_shr, o_ushr, o_max, o_min, o_i2b, o_i2c, o_i2l, o_l2i, x_fld, j_fget, x_idx, j_aget, x_len, j_alen, x_ofb, x_ite, xs_nil, xs_cons, x_callv, x_calls, s_callv, s_calls, j_recv, j_ret, j_retv, b_cmp, b_and, b_or, b_not, b_ofi, b_ite, b_true, s_skip, s_set, j_ty, j_lset, j_kill, s_inc, s_fput, j_fput, s_fop, s_aput, j_aput, j_nar, s_aop, s_ret, s_retv, s_go, s_pop, x_linc, x_finc, Value.category, if_icmp.holds, List.flatMap_cons, List.flatMap_nil, List.length_cons, List.length_append, List.length_nil, List.set_cons_succ, List.set_cons_zero, List.getElem?_cons_succ, List.getElem?_cons_zero, List.replicate, ite_and', ite_or', ite_int', nI_leI, nI_ltI, nI_eq, nI_add, nI_1, pk_mul, nI_clamp, n_in', nI_pos', nI_pos, n_m1e, n_01, n_10, sT_98, sT_99, sT_100, sT_101, sT_102, sT_103, sT_104, sT_105, sT_106, sT_107, sT_108, sT_109, sT_110, sT_111, sT_112, sT_113, sT_114, sT_115, sT_116, sT_117, sT_118, sT_119, sT_120, sT_121, sT_122, sT_123, sT_124, sT_125, sT_126, sT_127, sT_128, sT_129, sT_130, sT_131, sT_132, sT_133, sT_134, sT_135, sT_136, sT_137, sT_138, sT_139, sT_140, sR_98_1, sR_98_4, sR_98_5, sR_98_6, sR_98_7, sR_98_8, sR_98_9, sR_98_10, sR_98_12, sR_98_13, sR_98_14, sR_98_15, sR_98_16, sR_98_17, sR_98_18, sR_98_19, sR_98_20, sR_98_21, sR_98_22, sR_98_23, sR_98_24, sR_98_25, sR_98_26, sR_98_27, sR_98_28, sR_98_29, sR_98_31, sR_98_34, sR_98_35, sR_98_36, sR_98_42, sR_98_44, sR_98_45, sR_98_47, sR_98_49, sR_98_51, sR_98_56, sR_98_58, sR_98_62, sR_98_65, sR_98_66, sR_98_69, nI_0, hh', e2, hI_setI, hI_setJ, hI_setR, hJ_setI, hJ_setJ, hJ_setR, hR_setI, hR_setJ, hR_setR, hT_setI, hT_setJ, hT_setR, hN_setI, hN_setJ, hN_setR, hS_setI, hS_setJ, hS_setR]
