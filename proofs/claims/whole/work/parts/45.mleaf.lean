/-! the reference's small methods, evaluated -/
def fi (p : Nat → Bool) : Nat → Nat → Option Nat
  | 0, _ => none
  | k + 1, i => if p i then some i else fi p k (i + 1)
/-- the first below n that has a property -/
def fst1 (p : Nat → Bool) (n : Nat) : Option Nat := fi p n 0
theorem fi_some {p : Nat → Bool} : ∀ {k i j : Nat}, fi p k i = some j → i ≤ j ∧ j < i + k ∧ p j = true ∧ ∀ m, i ≤ m → m < j → p m = false := by
  intro k
  induction k with
  | zero => intro i j h; cases h
  | succ k ih =>
    intro i j h
    simp only [fi] at h
    by_cases hp : p i = true
    · rw [if_pos hp] at h
      cases h
      exact ⟨Nat.le_refl _, by omega, hp, fun m h1 h2 => by omega⟩
    · rw [if_neg hp] at h
      obtain ⟨a, b, c, d⟩ := ih h
      refine ⟨by omega, by omega, c, fun m h1 h2 => ?_⟩
      by_cases e : m = i
      · subst e; simpa using hp
      · exact d m (by omega) h2
theorem fi_none {p : Nat → Bool} : ∀ {k i : Nat}, fi p k i = none → ∀ m, i ≤ m → m < i + k → p m = false := by
  intro k
  induction k with
  | zero => intro i h m h1 h2; omega
  | succ k ih =>
    intro i h m h1 h2
    simp only [fi] at h
    by_cases hp : p i = true
    · rw [if_pos hp] at h; cases h
    · rw [if_neg hp] at h
      by_cases e : m = i
      · subst e; simpa using hp
      · exact ih h m (by omega) (by omega)
theorem fst1_some {p : Nat → Bool} {n j : Nat} (h : fst1 p n = some j) : j < n ∧ p j = true ∧ ∀ m, m < j → p m = false := by
  obtain ⟨a, b, c, d⟩ := fi_some h
  exact ⟨by omega, c, fun m hm => d m (Nat.zero_le _) hm⟩
theorem fst1_none {p : Nat → Bool} {n : Nat} (h : fst1 p n = none) : ∀ m, m < n → p m = false := fun m hm => fi_none h m (Nat.zero_le _) (by omega)
theorem fst1_of {p : Nat → Bool} {n j : Nat} (h1 : j < n) (h2 : p j = true) (h3 : ∀ m, m < j → p m = false) : fst1 p n = some j := by
  cases h : fst1 p n with
  | none => have := fst1_none h j h1; rw [h2] at this; cases this
  | some i =>
    obtain ⟨a, b, c⟩ := fst1_some h
    have e : i = j := by
      rcases Nat.lt_trichotomy i j with q | q | q
      · have := h3 i q; rw [b] at this; cases this
      · exact q
      · have := c j q; rw [h2] at this; cases this
    rw [e]
theorem fst1_no {p : Nat → Bool} {n : Nat} (h : ∀ m, m < n → p m = false) : fst1 p n = none := by
  cases e : fst1 p n with
  | none => rfl
  | some j =>
    obtain ⟨a, b, -⟩ := fst1_some e
    have := h j a
    rw [b] at this
    cases this
theorem fst1_lt {p : Nat → Bool} {n j : Nat} (h : fst1 p n = some j) : j < n := (fst1_some h).1
theorem fst1_congr {p q : Nat → Bool} {n : Nat} (h : ∀ i, i < n → p i = q i) : fst1 p n = fst1 q n := by
  cases e : fst1 q n with
  | none => exact fst1_no fun m hm => by rw [h m hm]; exact fst1_none e m hm
  | some j =>
    obtain ⟨a, b, c⟩ := fst1_some e
    exact fst1_of a (by rw [h j a]; exact b) fun m hm => by rw [h m (by omega)]; exact c m hm
/-- a loop that looks for the first place with a property and answers there -/
theorem loop_fst {lb lc : Nat} {c : jB} {b u : jSt} (n : Nat) (G : Nat → jS) (p : Nat → Bool) (R : Nat → Option Value) (S : Nat → jS)
    (hc : ∀ i, i < n → c (G i) = some (true, G i)) (he : c (G n) = some (false, G n))
    (hb1 : ∀ i, i < n → p i = true → b (G i) = some (.inr (R i), S i))
    (hb0 : ∀ i, i < n → p i = false → ∃ (o : Nat) (mid : jS), (o = 0 ∨ o = lc) ∧ b (G i) = some (.inl o, mid) ∧ u mid = some (.inl 0, G (i + 1))) :
    s_loop lb lc c b u (G 0) = match fst1 p n with
      | some i => some (.inr (R i), S i)
      | none => some (.inl 0, G n) := by
  have h := loop_gen (lb := lb) (lc := lc) (c := c) (b := b) (u := u) (σ := Unit) n (fun i _ => G i) (fun i s => if p i then .inr (.inr (R i), S i) else .inl s) (fun _ _ => True) (fun i _ hi _ => hc i hi) (fun _ _ => he) ?_ n 0 () (by omega) trivial
  · have key : ∀ (k i : Nat), i + k = n → lgo (σ := Unit) (ρ := jO × jS) (fun i s => if p i then .inr (.inr (R i), S i) else .inl s) k i () = match fi p k i with
        | some j => .inr (.inr (R j), S j)
        | none => .inl () := by
      intro k
      induction k with
      | zero => intro i _; rfl
      | succ k ih =>
        intro i hi
        simp only [lgo, fi]
        by_cases hp : p i = true
        · simp [hp]
        · simp only [hp]
          exact ih (i + 1) (by omega)
    rw [key n 0 (by omega)] at h
    rw [h]
    unfold fst1
    cases fi p n 0 <;> rfl
  · intro i s hi _
    by_cases hp : p i = true
    · simp only [hp, if_true]
      exact Or.inl ⟨_, _, rfl, hb1 i hi hp⟩
    · simp only [hp]
      obtain ⟨o, mid, q1, q2, q3⟩ := hb0 i hi (by simpa using hp)
      exact ⟨trivial, o, mid, q1, q2, q3⟩
-- arguments
theorem j_in_ex {x : Int32} {n : Nat} (h : j_in x n = true) (hn : n < 2 ^ 31) : ∃ k, k < n ∧ x = nI k := by
  simp only [j_in, Bool.and_eq_true, decide_eq_true_eq] at h
  obtain ⟨j, hj, rfl⟩ := nI_of (Int32.not_lt.mpr h.1)
  rw [nI_clamp hj] at h
  exact ⟨j, h.2, rfl⟩
theorem j_in_le {x : Int32} {n : Nat} (hn : n < 2 ^ 31) : (0 ≤ x ∧ x ≤ nI n - nI 1) ↔ j_in x n = true := by
  rcases n_of x with ⟨k, hk, rfl⟩ | hx
  · rw [n_in hk, decide_eq_true_eq]
    cases n with
    | zero =>
      have e : nI 0 - nI 1 = -1 := by decide
      rw [e]
      have : ¬ nI k ≤ -1 := n_neg (by decide) hk
      simp [this]
    | succ n =>
      rw [pk_sub (by omega), nI_leI hk (by omega)]
      have := nI_pos' hk
      simp [this]
      omega
  · have h1 : ¬ 0 ≤ x := Int32.not_le.mpr hx
    simp [h1, j_in]
theorem oI_m1 {x : Option Nat} (hx : ∀ n, x = some n → n < 2 ^ 31) : oI x = -1 ↔ x = none := by
  cases x with
  | none => simp [oI]
  | some n =>
    have := n_m1e (hx n rfl)
    simp [oI, this]
theorem e_M_isPerson {A : AS} {h : jHp} (hs : Shape h) (w : WF A) (r : RMp A h) (p : Int32) : f_M_isPerson [.ref 98, .int p] h = some (some (.int (if j_in p (aNp A) then 1 else 0)), h) := by
  have hn : aNp A < 2 ^ 31 := by have := w.1.1; omega
  have e := j_in_le (x := p) hn
  by_cases q : j_in p (aNp A) = true
  · have e2 := e.mpr q
    simp [f_M_isPerson, body_M_isPerson, j_meth, j_out, j_rok, j_pad, lg_sl, s_seq, s_if, jb, x_c, x_iloc, x_aloc, x_lloc, x_bin, x_un, o_add, o_sub, o_mul, o_and, o_or, o_xor, o_shl, o_shr, o_ushr, o_max, o_min, o_i2b, o_i2c, o_i2l, o_l2i, x_fld, j_fget, x_idx, j_aget, x_len, j_alen, x_ofb, x_ite, xs_nil, xs_cons, x_callv, x_calls, s_callv, s_calls, j_recv, j_ret, j_retv, b_cmp, b_and, b_or, b_not, b_ofi, b_ite, b_true, s_skip, s_set, j_ty, j_lset, j_kill, s_inc, s_fput, j_fput, s_fop, s_aput, j_aput, j_nar, s_aop, s_ret, s_retv, s_go, s_pop, x_linc, x_finc, Value.category, if_icmp.holds, List.flatMap_cons, List.flatMap_nil, List.length_cons, List.length_append, List.length_nil, List.set_cons_succ, List.set_cons_zero, List.getElem?_cons_succ, List.getElem?_cons_zero, List.replicate, sT_98, sT_99, sT_100, sT_101, sT_102, sT_103, sT_104, sT_105, sT_106, sT_107, sT_108, sT_109, sT_110, sT_111, sT_112, sT_113, sT_114, sT_115, sT_116, sT_117, sT_118, sT_119, sT_120, sT_121, sT_122, sT_123, sT_124, sT_125, sT_126, sT_127, sT_128, sT_129, sT_130, sT_131, sT_132, sT_133, sT_134, sT_135, sT_136, sT_137, sT_138, sT_139, sT_140, sR_98_1, sR_98_4, sR_98_5, sR_98_6, sR_98_7, sR_98_8, sR_98_9, sR_98_10, sR_98_12, sR_98_13, sR_98_14, sR_98_15, sR_98_16, sR_98_17, sR_98_18, sR_98_19, sR_98_20, sR_98_21, sR_98_22, sR_98_23, sR_98_24, sR_98_25, sR_98_26, sR_98_27, sR_98_28, sR_98_29, sR_98_31, sR_98_34, sR_98_35, sR_98_36, sR_98_42, sR_98_44, sR_98_45, sR_98_47, sR_98_49, sR_98_51, sR_98_56, sR_98_58, sR_98_62, sR_98_65, sR_98_66, sR_98_69, hs, e_M_in, r.1, q, e2, nI_0]
  · have e2 : ¬ (0 ≤ p ∧ p ≤ nI (aNp A) - nI 1) := fun z => q (e.mp z)
    simp only [Bool.not_eq_true] at q
    simp [f_M_isPerson, body_M_isPerson, j_meth, j_out, j_rok, j_pad, lg_sl, s_seq, s_if, jb, x_c, x_iloc, x_aloc, x_lloc, x_bin, x_un, o_add, o_sub, o_mul, o_and, o_or, o_xor, o_shl, o_shr, o_ushr, o_max, o_min, o_i2b, o_i2c, o_i2l, o_l2i, x_fld, j_fget, x_idx, j_aget, x_len, j_alen, x_ofb, x_ite, xs_nil, xs_cons, x_callv, x_calls, s_callv, s_calls, j_recv, j_ret, j_retv, b_cmp, b_and, b_or, b_not, b_ofi, b_ite, b_true, s_skip, s_set, j_ty, j_lset, j_kill, s_inc, s_fput, j_fput, s_fop, s_aput, j_aput, j_nar, s_aop, s_ret, s_retv, s_go, s_pop, x_linc, x_finc, Value.category, if_icmp.holds, List.flatMap_cons, List.flatMap_nil, List.length_cons, List.length_append, List.length_nil, List.set_cons_succ, List.set_cons_zero, List.getElem?_cons_succ, List.getElem?_cons_zero, List.replicate, sT_98, sT_99, sT_100, sT_101, sT_102, sT_103, sT_104, sT_105, sT_106, sT_107, sT_108, sT_109, sT_110, sT_111, sT_112, sT_113, sT_114, sT_115, sT_116, sT_117, sT_118, sT_119, sT_120, sT_121, sT_122, sT_123, sT_124, sT_125, sT_126, sT_127, sT_128, sT_129, sT_130, sT_131, sT_132, sT_133, sT_134, sT_135, sT_136, sT_137, sT_138, sT_139, sT_140, sR_98_1, sR_98_4, sR_98_5, sR_98_6, sR_98_7, sR_98_8, sR_98_9, sR_98_10, sR_98_12, sR_98_13, sR_98_14, sR_98_15, sR_98_16, sR_98_17, sR_98_18, sR_98_19, sR_98_20, sR_98_21, sR_98_22, sR_98_23, sR_98_24, sR_98_25, sR_98_26, sR_98_27, sR_98_28, sR_98_29, sR_98_31, sR_98_34, sR_98_35, sR_98_36, sR_98_42, sR_98_44, sR_98_45, sR_98_47, sR_98_49, sR_98_51, sR_98_56, sR_98_58, sR_98_62, sR_98_65, sR_98_66, sR_98_69, hs, e_M_in, r.1, q, e2, nI_0]
theorem e_M_isOffice {A : AS} {h : jHp} (hs : Shape h) (w : WF A) (r : RMb A h) (p : Int32) : f_M_isOffice [.ref 98, .int p] h = some (some (.int (if j_in p (aNo A) then 1 else 0)), h) := by
  have hn : aNo A < 2 ^ 31 := by have := w.2.1; omega
  have e := j_in_le (x := p) hn
  by_cases q : j_in p (aNo A) = true
  · have e2 := e.mpr q
    simp [f_M_isOffice, body_M_isOffice, j_meth, j_out, j_rok, j_pad, lg_sl, s_seq, s_if, jb, x_c, x_iloc, x_aloc, x_lloc, x_bin, x_un, o_add, o_sub, o_mul, o_and, o_or, o_xor, o_shl, o_shr, o_ushr, o_max, o_min, o_i2b, o_i2c, o_i2l, o_l2i, x_fld, j_fget, x_idx, j_aget, x_len, j_alen, x_ofb, x_ite, xs_nil, xs_cons, x_callv, x_calls, s_callv, s_calls, j_recv, j_ret, j_retv, b_cmp, b_and, b_or, b_not, b_ofi, b_ite, b_true, s_skip, s_set, j_ty, j_lset, j_kill, s_inc, s_fput, j_fput, s_fop, s_aput, j_aput, j_nar, s_aop, s_ret, s_retv, s_go, s_pop, x_linc, x_finc, Value.category, if_icmp.holds, List.flatMap_cons, List.flatMap_nil, List.length_cons, List.length_append, List.length_nil, List.set_cons_succ, List.set_cons_zero, List.getElem?_cons_succ, List.getElem?_cons_zero, List.replicate, sT_98, sT_99, sT_100, sT_101, sT_102, sT_103, sT_104, sT_105, sT_106, sT_107, sT_108, sT_109, sT_110, sT_111, sT_112, sT_113, sT_114, sT_115, sT_116, sT_117, sT_118, sT_119, sT_120, sT_121, sT_122, sT_123, sT_124, sT_125, sT_126, sT_127, sT_128, sT_129, sT_130, sT_131, sT_132, sT_133, sT_134, sT_135, sT_136, sT_137, sT_138, sT_139, sT_140, sR_98_1, sR_98_4, sR_98_5, sR_98_6, sR_98_7, sR_98_8, sR_98_9, sR_98_10, sR_98_12, sR_98_13, sR_98_14, sR_98_15, sR_98_16, sR_98_17, sR_98_18, sR_98_19, sR_98_20, sR_98_21, sR_98_22, sR_98_23, sR_98_24, sR_98_25, sR_98_26, sR_98_27, sR_98_28, sR_98_29, sR_98_31, sR_98_34, sR_98_35, sR_98_36, sR_98_42, sR_98_44, sR_98_45, sR_98_47, sR_98_49, sR_98_51, sR_98_56, sR_98_58, sR_98_62, sR_98_65, sR_98_66, sR_98_69, hs, e_M_in, r.1, q, e2, nI_0]
  · have e2 : ¬ (0 ≤ p ∧ p ≤ nI (aNo A) - nI 1) := fun z => q (e.mp z)
    simp only [Bool.not_eq_true] at q
    simp [f_M_isOffice, body_M_isOffice, j_meth, j_out, j_rok, j_pad, lg_sl, s_seq, s_if, jb, x_c, x_iloc, x_aloc, x_lloc, x_bin, x_un, o_add, o_sub, o_mul, o_and, o_or, o_xor, o_shl, o_shr, o_ushr, o_max, o_min, o_i2b, o_i2c, o_i2l, o_l2i, x_fld, j_fget, x_idx, j_aget, x_len, j_alen, x_ofb, x_ite, xs_nil, xs_cons, x_callv, x_calls, s_callv, s_calls, j_recv, j_ret, j_retv, b_cmp, b_and, b_or, b_not, b_ofi, b_ite, b_true, s_skip, s_set, j_ty, j_lset, j_kill, s_inc, s_fput, j_fput, s_fop, s_aput, j_aput, j_nar, s_aop, s_ret, s_retv, s_go, s_pop, x_linc, x_finc, Value.category, if_icmp.holds, List.flatMap_cons, List.flatMap_nil, List.length_cons, List.length_append, List.length_nil, List.set_cons_succ, List.set_cons_zero, List.getElem?_cons_succ, List.getElem?_cons_zero, List.replicate, sT_98, sT_99, sT_100, sT_101, sT_102, sT_103, sT_104, sT_105, sT_106, sT_107, sT_108, sT_109, sT_110, sT_111, sT_112, sT_113, sT_114, sT_115, sT_116, sT_117, sT_118, sT_119, sT_120, sT_121, sT_122, sT_123, sT_124, sT_125, sT_126, sT_127, sT_128, sT_129, sT_130, sT_131, sT_132, sT_133, sT_134, sT_135, sT_136, sT_137, sT_138, sT_139, sT_140, sR_98_1, sR_98_4, sR_98_5, sR_98_6, sR_98_7, sR_98_8, sR_98_9, sR_98_10, sR_98_12, sR_98_13, sR_98_14, sR_98_15, sR_98_16, sR_98_17, sR_98_18, sR_98_19, sR_98_20, sR_98_21, sR_98_22, sR_98_23, sR_98_24, sR_98_25, sR_98_26, sR_98_27, sR_98_28, sR_98_29, sR_98_31, sR_98_34, sR_98_35, sR_98_36, sR_98_42, sR_98_44, sR_98_45, sR_98_47, sR_98_49, sR_98_51, sR_98_56, sR_98_58, sR_98_62, sR_98_65, sR_98_66, sR_98_69, hs, e_M_in, r.1, q, e2, nI_0]
theorem e_M_isBond {A : AS} {h : jHp} (hs : Shape h) (w : WF A) (r : RMb A h) (p : Int32) : f_M_isBond [.ref 98, .int p] h = some (some (.int (if j_in p (aNb A) then 1 else 0)), h) := by
  have hn : aNb A < 2 ^ 31 := by have := w.2.2.1.1; omega
  have e := j_in_le (x := p) hn
  by_cases q : j_in p (aNb A) = true
  · have e2 := e.mpr q
    simp [f_M_isBond, body_M_isBond, j_meth, j_out, j_rok, j_pad, lg_sl, s_seq, s_if, jb, x_c, x_iloc, x_aloc, x_lloc, x_bin, x_un, o_add, o_sub, o_mul, o_and, o_or, o_xor, o_shl, o_shr, o_ushr, o_max, o_min, o_i2b, o_i2c, o_i2l, o_l2i, x_fld, j_fget, x_idx, j_aget, x_len, j_alen, x_ofb, x_ite, xs_nil, xs_cons, x_callv, x_calls, s_callv, s_calls, j_recv, j_ret, j_retv, b_cmp, b_and, b_or, b_not, b_ofi, b_ite, b_true, s_skip, s_set, j_ty, j_lset, j_kill, s_inc, s_fput, j_fput, s_fop, s_aput, j_aput, j_nar, s_aop, s_ret, s_retv, s_go, s_pop, x_linc, x_finc, Value.category, if_icmp.holds, List.flatMap_cons, List.flatMap_nil, List.length_cons, List.length_append, List.length_nil, List.set_cons_succ, List.set_cons_zero, List.getElem?_cons_succ, List.getElem?_cons_zero, List.replicate, sT_98, sT_99, sT_100, sT_101, sT_102, sT_103, sT_104, sT_105, sT_106, sT_107, sT_108, sT_109, sT_110, sT_111, sT_112, sT_113, sT_114, sT_115, sT_116, sT_117, sT_118, sT_119, sT_120, sT_121, sT_122, sT_123, sT_124, sT_125, sT_126, sT_127, sT_128, sT_129, sT_130, sT_131, sT_132, sT_133, sT_134, sT_135, sT_136, sT_137, sT_138, sT_139, sT_140, sR_98_1, sR_98_4, sR_98_5, sR_98_6, sR_98_7, sR_98_8, sR_98_9, sR_98_10, sR_98_12, sR_98_13, sR_98_14, sR_98_15, sR_98_16, sR_98_17, sR_98_18, sR_98_19, sR_98_20, sR_98_21, sR_98_22, sR_98_23, sR_98_24, sR_98_25, sR_98_26, sR_98_27, sR_98_28, sR_98_29, sR_98_31, sR_98_34, sR_98_35, sR_98_36, sR_98_42, sR_98_44, sR_98_45, sR_98_47, sR_98_49, sR_98_51, sR_98_56, sR_98_58, sR_98_62, sR_98_65, sR_98_66, sR_98_69, hs, e_M_in, r.2.1, q, e2, nI_0]
  · have e2 : ¬ (0 ≤ p ∧ p ≤ nI (aNb A) - nI 1) := fun z => q (e.mp z)
    simp only [Bool.not_eq_true] at q
    simp [f_M_isBond, body_M_isBond, j_meth, j_out, j_rok, j_pad, lg_sl, s_seq, s_if, jb, x_c, x_iloc, x_aloc, x_lloc, x_bin, x_un, o_add, o_sub, o_mul, o_and, o_or, o_xor, o_shl, o_shr, o_ushr, o_max, o_min, o_i2b, o_i2c, o_i2l, o_l2i, x_fld, j_fget, x_idx, j_aget, x_len, j_alen, x_ofb, x_ite, xs_nil, xs_cons, x_callv, x_calls, s_callv, s_calls, j_recv, j_ret, j_retv, b_cmp, b_and, b_or, b_not, b_ofi, b_ite, b_true, s_skip, s_set, j_ty, j_lset, j_kill, s_inc, s_fput, j_fput, s_fop, s_aput, j_aput, j_nar, s_aop, s_ret, s_retv, s_go, s_pop, x_linc, x_finc, Value.category, if_icmp.holds, List.flatMap_cons, List.flatMap_nil, List.length_cons, List.length_append, List.length_nil, List.set_cons_succ, List.set_cons_zero, List.getElem?_cons_succ, List.getElem?_cons_zero, List.replicate, sT_98, sT_99, sT_100, sT_101, sT_102, sT_103, sT_104, sT_105, sT_106, sT_107, sT_108, sT_109, sT_110, sT_111, sT_112, sT_113, sT_114, sT_115, sT_116, sT_117, sT_118, sT_119, sT_120, sT_121, sT_122, sT_123, sT_124, sT_125, sT_126, sT_127, sT_128, sT_129, sT_130, sT_131, sT_132, sT_133, sT_134, sT_135, sT_136, sT_137, sT_138, sT_139, sT_140, sR_98_1, sR_98_4, sR_98_5, sR_98_6, sR_98_7, sR_98_8, sR_98_9, sR_98_10, sR_98_12, sR_98_13, sR_98_14, sR_98_15, sR_98_16, sR_98_17, sR_98_18, sR_98_19, sR_98_20, sR_98_21, sR_98_22, sR_98_23, sR_98_24, sR_98_25, sR_98_26, sR_98_27, sR_98_28, sR_98_29, sR_98_31, sR_98_34, sR_98_35, sR_98_36, sR_98_42, sR_98_44, sR_98_45, sR_98_47, sR_98_49, sR_98_51, sR_98_56, sR_98_58, sR_98_62, sR_98_65, sR_98_66, sR_98_69, hs, e_M_in, r.2.1, q, e2, nI_0]
theorem e_M_isSet {A : AS} {h : jHp} (hs : Shape h) (w : WF A) (r : RMb A h) (p : Int32) : f_M_isSet [.ref 98, .int p] h = some (some (.int (if j_in p (2 ^ aNb A) then 1 else 0)), h) := by
  have h20 := w.2.2.1.1
  have hn : 2 ^ aNb A < 2 ^ 31 := Nat.pow_lt_pow_right (by decide) (by omega)
  have e := j_in_le (x := p) hn
  have hsh := n_shl 1 (k := aNb A) (by omega)
  rw [Nat.one_mul] at hsh
  by_cases q : j_in p (2 ^ aNb A) = true
  · have e2 := e.mpr q
    simp [f_M_isSet, body_M_isSet, j_meth, j_out, j_rok, j_pad, lg_sl, s_seq, s_if, jb, x_c, x_iloc, x_aloc, x_lloc, x_bin, x_un, o_add, o_sub, o_mul, o_and, o_or, o_xor, o_shl, o_shr, o_ushr, o_max, o_min, o_i2b, o_i2c, o_i2l, o_l2i, x_fld, j_fget, x_idx, j_aget, x_len, j_alen, x_ofb, x_ite, xs_nil, xs_cons, x_callv, x_calls, s_callv, s_calls, j_recv, j_ret, j_retv, b_cmp, b_and, b_or, b_not, b_ofi, b_ite, b_true, s_skip, s_set, j_ty, j_lset, j_kill, s_inc, s_fput, j_fput, s_fop, s_aput, j_aput, j_nar, s_aop, s_ret, s_retv, s_go, s_pop, x_linc, x_finc, Value.category, if_icmp.holds, List.flatMap_cons, List.flatMap_nil, List.length_cons, List.length_append, List.length_nil, List.set_cons_succ, List.set_cons_zero, List.getElem?_cons_succ, List.getElem?_cons_zero, List.replicate, sT_98, sT_99, sT_100, sT_101, sT_102, sT_103, sT_104, sT_105, sT_106, sT_107, sT_108, sT_109, sT_110, sT_111, sT_112, sT_113, sT_114, sT_115, sT_116, sT_117, sT_118, sT_119, sT_120, sT_121, sT_122, sT_123, sT_124, sT_125, sT_126, sT_127, sT_128, sT_129, sT_130, sT_131, sT_132, sT_133, sT_134, sT_135, sT_136, sT_137, sT_138, sT_139, sT_140, sR_98_1, sR_98_4, sR_98_5, sR_98_6, sR_98_7, sR_98_8, sR_98_9, sR_98_10, sR_98_12, sR_98_13, sR_98_14, sR_98_15, sR_98_16, sR_98_17, sR_98_18, sR_98_19, sR_98_20, sR_98_21, sR_98_22, sR_98_23, sR_98_24, sR_98_25, sR_98_26, sR_98_27, sR_98_28, sR_98_29, sR_98_31, sR_98_34, sR_98_35, sR_98_36, sR_98_42, sR_98_44, sR_98_45, sR_98_47, sR_98_49, sR_98_51, sR_98_56, sR_98_58, sR_98_62, sR_98_65, sR_98_66, sR_98_69, hs, e_M_in, r.2.1, q, e2, nI_0, hsh]
  · have e2 : ¬ (0 ≤ p ∧ p ≤ nI (2 ^ aNb A) - nI 1) := fun z => q (e.mp z)
    simp only [Bool.not_eq_true] at q
    simp [f_M_isSet, body_M_isSet, j_meth, j_out, j_rok, j_pad, lg_sl, s_seq, s_if, jb, x_c, x_iloc, x_aloc, x_lloc, x_bin, x_un, o_add, o_sub, o_mul, o_and, o_or, o_xor, o_shl, o_shr, o_ushr, o_max, o_min, o_i2b, o_i2c, o_i2l, o_l2i, x_fld, j_fget, x_idx, j_aget, x_len, j_alen, x_ofb, x_ite, xs_nil, xs_cons, x_callv, x_calls, s_callv, s_calls, j_recv, j_ret, j_retv, b_cmp, b_and, b_or, b_not, b_ofi, b_ite, b_true, s_skip, s_set, j_ty, j_lset, j_kill, s_inc, s_fput, j_fput, s_fop, s_aput, j_aput, j_nar, s_aop, s_ret, s_retv, s_go, s_pop, x_linc, x_finc, Value.category, if_icmp.holds, List.flatMap_cons, List.flatMap_nil, List.length_cons, List.length_append, List.length_nil, List.set_cons_succ, List.set_cons_zero, List.getElem?_cons_succ, List.getElem?_cons_zero, List.replicate, sT_98, sT_99, sT_100, sT_101, sT_102, sT_103, sT_104, sT_105, sT_106, sT_107, sT_108, sT_109, sT_110, sT_111, sT_112, sT_113, sT_114, sT_115, sT_116, sT_117, sT_118, sT_119, sT_120, sT_121, sT_122, sT_123, sT_124, sT_125, sT_126, sT_127, sT_128, sT_129, sT_130, sT_131, sT_132, sT_133, sT_134, sT_135, sT_136, sT_137, sT_138, sT_139, sT_140, sR_98_1, sR_98_4, sR_98_5, sR_98_6, sR_98_7, sR_98_8, sR_98_9, sR_98_10, sR_98_12, sR_98_13, sR_98_14, sR_98_15, sR_98_16, sR_98_17, sR_98_18, sR_98_19, sR_98_20, sR_98_21, sR_98_22, sR_98_23, sR_98_24, sR_98_25, sR_98_26, sR_98_27, sR_98_28, sR_98_29, sR_98_31, sR_98_34, sR_98_35, sR_98_36, sR_98_42, sR_98_44, sR_98_45, sR_98_47, sR_98_49, sR_98_51, sR_98_56, sR_98_58, sR_98_62, sR_98_65, sR_98_66, sR_98_69, hs, e_M_in, r.2.1, q, e2, nI_0, hsh]
