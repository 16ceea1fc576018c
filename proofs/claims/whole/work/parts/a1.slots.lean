/-! slots and sets -/
theorem slM_bit (A : AS) (S : Nat) : ∀ n k, (nfo (fun b m => if S.testBit b then m ||| 2 ^ sSlot A b else m) n 0).testBit k = true ↔ ∃ b, b < n ∧ S.testBit b = true ∧ sSlot A b = k := by
  intro n
  induction n with
  | zero => intro k; simp [nfo]
  | succ n ih =>
    intro k
    simp only [nfo]
    by_cases hs : S.testBit n = true
    · rw [if_pos hs, Nat.testBit_or, Nat.testBit_two_pow, Bool.or_eq_true, ih]
      constructor
      · rintro (⟨b, h1, h2, h3⟩ | h1)
        · exact ⟨b, by omega, h2, h3⟩
        · exact ⟨n, by omega, hs, by simpa using h1⟩
      · rintro ⟨b, h1, h2, h3⟩
        by_cases e : b = n
        · subst e; right; simpa using h3
        · exact Or.inl ⟨b, by omega, h2, h3⟩
    · rw [if_neg hs, ih]
      constructor
      · rintro ⟨b, h1, h2, h3⟩; exact ⟨b, by omega, h2, h3⟩
      · rintro ⟨b, h1, h2, h3⟩
        by_cases e : b = n
        · subst e; exact absurd h2 hs
        · exact ⟨b, by omega, h2, h3⟩
theorem slM_b {A : AS} (w : WF A) (S : Nat) {b : Nat} (hb : b < aNb A) : (slM A S).testBit (sSlot A b) = S.testBit b := by
  cases h : S.testBit b with
  | true => exact (slM_bit A S _ _).mpr ⟨b, hb, h, rfl⟩
  | false =>
    cases h2 : (slM A S).testBit (sSlot A b) with
    | false => rfl
    | true =>
      obtain ⟨c, c1, c2, c3⟩ := (slM_bit A S _ _).mp h2
      have := sSlot_inj w c1 hb c3
      subst this
      rw [h] at c2; cases c2
theorem slM_lt {A : AS} (w : WF A) (S : Nat) : slM A S < 2 ^ 32 := by
  unfold slM
  refine nfo_inv (fun _ m => m < 2 ^ 32) (aNb A) 0 (by decide) ?_ _ (Nat.le_refl _)
  intro i t hi ht
  split
  · exact Nat.or_lt_two_pow ht (Nat.pow_lt_pow_right (by decide) (sSlot_lt w hi))
  · exact ht
theorem stM_b (A : AS) (X : Nat) : ∀ n b, (nfo (fun b m => if X.testBit (sSlot A b) then m ||| 2 ^ b else m) n 0).testBit b = (decide (b < n) && X.testBit (sSlot A b)) := by
  intro n
  induction n with
  | zero => intro b; simp [nfo]
  | succ n ih =>
    intro b
    simp only [nfo]
    have e2 : n ≠ b → decide (b < n + 1) = decide (b < n) := fun e => by
      by_cases q : b < n
      · simp [q, show b < n + 1 by omega]
      · simp [q, show ¬ b < n + 1 by omega]
    by_cases hs : X.testBit (sSlot A n) = true
    · rw [if_pos hs, Nat.testBit_or, ih, Nat.testBit_two_pow]
      by_cases e : n = b
      · subst e; simp [hs]
      · rw [e2 e]; simp [e]
    · rw [if_neg hs, ih]
      by_cases e : n = b
      · subst e
        have : X.testBit (sSlot A n) = false := by simpa using hs
        simp [this]
      · rw [e2 e]
theorem stM_lt (A : AS) (X : Nat) : stM A X < 2 ^ aNb A := by
  unfold stM
  refine nfo_inv (fun _ m => m < 2 ^ aNb A) (aNb A) 0 (Nat.two_pow_pos _) ?_ _ (Nat.le_refl _)
  intro i t hi ht
  split
  · exact Nat.or_lt_two_pow ht (Nat.pow_lt_pow_right (by decide) hi)
  · exact ht
theorem stM_slM {A : AS} (w : WF A) {S : Nat} (hS : S < 2 ^ aNb A) : stM A (slM A S) = S := by
  apply Nat.eq_of_testBit_eq
  intro b
  show (stM A (slM A S)).testBit b = _
  unfold stM
  rw [stM_b]
  by_cases q : b < aNb A
  · rw [slM_b w S q]; simp [q]
  · rw [tb_false hS (by omega)]; simp [q]
/-- an OFFICE's byte -/
def prt (f X : Nat) : Nat := X / 2 ^ (8 * f) % 256
theorem prt_lt (f X : Nat) : prt f X < 256 := Nat.mod_lt _ (by decide)
theorem prt_bit (f X i : Nat) : (prt f X).testBit i = (decide (i < 8) && X.testBit (8 * f + i)) := by
  unfold prt
  rw [show (256 : Nat) = 2 ^ 8 by decide, Nat.testBit_mod_two_pow, Nat.testBit_div_two_pow, Nat.add_comm]
theorem e_B_partOf {h : jHp} {f X : Nat} (hf : f < 4) (hX : X < 2 ^ 32) : f_B_partOf [.int (nI f), .int (nI X)] h = some (some (.int (nI (prt f X))), h) := by
  have h1 : nI f * nI 8 = nI (8 * f) := by rw [pk_mul]; congr 1; omega
  have h2 := n_ushr hX (k := 8 * f) (by omega)
  have h3 : ∀ a : Nat, a &&& 255 = a % 256 := fun a => Nat.and_two_pow_sub_one_eq_mod a 8
  have hm : nI (f * 8) = nI (8 * f) := by congr 1; omega
  unfold prt
  simp [f_B_partOf, body_B_partOf, j_meth, j_out, j_rok, j_pad, lg_sl, s_seq_w, isN_inl, isN_inr, s_if, jb, x_c, x_iloc, x_aloc, x_lloc, x_bin, x_un, o_add, o_sub, o_mul, o_and, o_or, o_xor, o_shl, o_shr, o_ushr, o_max, o_min, o_i2b, o_i2c, o_i2l, o_l2i, x_fld, j_fget, x_idx, j_aget, x_len, j_alen, x_ofb, x_ite, xs_nil, xs_cons, x_callv, x_calls, s_callv, s_calls, j_recv, j_ret, j_retv, b_cmp, b_and, b_or, b_not, b_ofi, b_ite, b_true, s_skip, s_set, j_ty, j_lset, j_kill, s_inc, s_fput, j_fput, s_fop, s_aput, j_aput, j_nar, s_aop, s_ret, s_retv, s_go, s_pop, x_linc, x_finc, Value.category, if_icmp.holds, List.flatMap_cons, List.flatMap_nil, List.length_cons, List.length_append, List.length_nil, List.set_cons_succ, List.set_cons_zero, List.getElem?_cons_succ, List.getElem?_cons_zero, List.replicate, h1, h2, n_and, h3]
theorem cnt_ex {p : Nat → Bool} : ∀ {n i}, i < cntN p n → ∃ b, b < n ∧ p b = true ∧ cntN p b = i := by
  intro n
  induction n with
  | zero => intro i h; simp [cntN, nfo] at h
  | succ n ih =>
    intro i h
    have h2 : cntN p (n + 1) = if p n then cntN p n + 1 else cntN p n := rfl
    rw [h2] at h
    by_cases hp : p n = true
    · rw [if_pos hp] at h
      by_cases e : i = cntN p n
      · exact ⟨n, by omega, hp, e.symm⟩
      · obtain ⟨b, b1, b2, b3⟩ := ih (i := i) (by omega)
        exact ⟨b, by omega, b2, b3⟩
    · rw [if_neg hp] at h
      obtain ⟨b, b1, b2, b3⟩ := ih h
      exact ⟨b, by omega, b2, b3⟩
/-- how many BONDS an OFFICE has -/
def nOf (A : AS) (f : Nat) : Nat := cntN (fun b => aOf A b == f) (aNb A)
theorem nOf_le {A : AS} (w : WF A) (f : Nat) : nOf A f ≤ 8 := w.2.2.1.2.2.1 f
/-- the BOND at a place of an OFFICE -/
def bAt (A : AS) (f i : Nat) : Nat := (fst1 (fun b => aOf A b == f && sIdx A b == i) (aNb A)).getD 0
theorem bAt_ok {A : AS} (w : WF A) {f i : Nat} (hi : i < nOf A f) : bAt A f i < aNb A ∧ aOf A (bAt A f i) = f ∧ sIdx A (bAt A f i) = i := by
  obtain ⟨b, b1, b2, b3⟩ := cnt_ex hi
  have b2' : aOf A b = f := by simpa using b2
  unfold bAt
  cases hf : fst1 (fun b => aOf A b == f && sIdx A b == i) (aNb A) with
  | none =>
    have := fst1_none hf b b1
    have hx : sIdx A b = i := by unfold sIdx; rw [b2']; exact b3
    simp [b2', hx] at this
  | some c =>
    obtain ⟨c1, c2, -⟩ := fst1_some hf
    simp only [Bool.and_eq_true, beq_iff_eq] at c2
    exact ⟨c1, c2.1, c2.2⟩
theorem bAt_idx {A : AS} (w : WF A) {b : Nat} (hb : b < aNb A) : bAt A (aOf A b) (sIdx A b) = b := by
  obtain ⟨h1, h2, h3⟩ := bAt_ok w (f := aOf A b) (i := sIdx A b) (sIdx_lt w hb).1
  exact sSlot_inj w h1 hb (by unfold sSlot; rw [h2, h3])
/-- what a byte of an OFFICE says as a set, and back -/
def pSet (A : AS) (f P : Nat) : Nat := stM A (P * 2 ^ (8 * f))
theorem pSet_bit {A : AS} (w : WF A) {f P b : Nat} (hP : P < 256) : (pSet A f P).testBit b = (decide (b < aNb A) && (decide (aOf A b = f) && P.testBit (sIdx A b))) := by
  unfold pSet stM
  rw [stM_b]
  by_cases hb : b < aNb A
  · simp only [hb, decide_true, Bool.true_and]
    have hi := (sIdx_lt w hb).2
    rw [Nat.mul_comm, Nat.testBit_two_pow_mul]
    unfold sSlot
    by_cases e : aOf A b = f
    · subst e
      have : 8 * aOf A b ≤ 8 * aOf A b + sIdx A b := by omega
      simp [this]
    · rcases Nat.lt_or_gt_of_ne e with q | q
      · have : ¬ 8 * f ≤ 8 * aOf A b + sIdx A b := by omega
        simp [this, e]
      · have h8 : P.testBit (8 * aOf A b + sIdx A b - 8 * f) = false := tb_false (n := 8) hP (by omega)
        simp [h8, e]
  · simp [hb]
theorem prt_slM_bit {A : AS} (w : WF A) {f S b : Nat} (hb : b < aNb A) (hf : aOf A b = f) : (prt f (slM A S)).testBit (sIdx A b) = S.testBit b := by
  have hi := (sIdx_lt w hb).2
  rw [prt_bit]
  simp only [hi, decide_true, Bool.true_and]
  rw [← slM_b w S hb]
  unfold sSlot
  rw [hf]
theorem prt_slM_hi {A : AS} (w : WF A) {f S i : Nat} (h : (prt f (slM A S)).testBit i = true) : i < nOf A f ∧ S.testBit (bAt A f i) = true := by
  rw [prt_bit] at h
  simp only [Bool.and_eq_true, decide_eq_true_eq] at h
  obtain ⟨b, b1, b2, b3⟩ := (slM_bit A S _ _).mp h.2
  have hi := (sIdx_lt w b1).2
  unfold sSlot at b3
  have ho : aOf A b = f := by omega
  have hx : sIdx A b = i := by omega
  subst ho
  subst hx
  refine ⟨(sIdx_lt w b1).1, ?_⟩
  rw [bAt_idx w b1]; exact b2
theorem prt_slM_lt {A : AS} (w : WF A) (f S : Nat) : prt f (slM A S) < 2 ^ nOf A f := by
  apply Nat.lt_pow_two_of_testBit
  intro i hi
  cases h : (prt f (slM A S)).testBit i with
  | false => rfl
  | true => have := (prt_slM_hi w h).1; omega
/-- the BONDS of an OFFICE in a set -/
theorem sOff_bit (A : AS) (f : Nat) : ∀ n b, (nfo (fun b m => if aOf A b == f then m ||| 2 ^ b else m) n 0).testBit b = (decide (b < n) && decide (aOf A b = f)) := by
  intro n
  induction n with
  | zero => intro b; simp [nfo]
  | succ n ih =>
    intro b
    simp only [nfo]
    have e2 : n ≠ b → decide (b < n + 1) = decide (b < n) := fun e => by
      by_cases q : b < n
      · simp [q, show b < n + 1 by omega]
      · simp [q, show ¬ b < n + 1 by omega]
    by_cases hs : aOf A n = f
    · rw [if_pos (by simpa using hs), Nat.testBit_or, ih, Nat.testBit_two_pow]
      by_cases e : n = b
      · subst e; simp [hs]
      · rw [e2 e]; simp [e]
    · rw [if_neg (by simpa using hs), ih]
      by_cases e : n = b
      · subst e; simp [hs]
      · rw [e2 e]
theorem pSet_prt {A : AS} (w : WF A) {f S : Nat} : pSet A f (prt f (slM A S)) = S &&& sOff A f := by
  apply Nat.eq_of_testBit_eq
  intro b
  rw [pSet_bit w (prt_lt _ _), Nat.testBit_and]
  unfold sOff
  rw [sOff_bit]
  by_cases hb : b < aNb A
  · by_cases e : aOf A b = f
    · rw [prt_slM_bit w hb e]; simp [hb, e]
    · simp [e]
  · simp [hb]
theorem prt_pSet {A : AS} (w : WF A) {f P : Nat} (hP : P < 2 ^ nOf A f) : prt f (slM A (pSet A f P)) = P := by
  have h8 : P < 256 := Nat.lt_of_lt_of_le hP (by have := nOf_le w f; exact Nat.pow_le_pow_right (by decide) this)
  apply Nat.eq_of_testBit_eq
  intro i
  by_cases hi : i < nOf A f
  · obtain ⟨h1, h2, h3⟩ := bAt_ok w hi
    have := prt_slM_bit w (S := pSet A f P) h1 h2
    rw [h3, pSet_bit w h8, h2, h3] at this
    rw [this]; simp [h1]
  · rw [tb_false hP (by omega)]
    cases h : (prt f (slM A (pSet A f P))).testBit i with
    | false => rfl
    | true => exact absurd (prt_slM_hi w h).1 hi
