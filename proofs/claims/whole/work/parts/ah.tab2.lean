/-- what firstWithin goes through -/
def fwN (A : AS) (f l P : Nat) : Nat → Nat := fun i => nfo (fun i t => if P.testBit i then (if wgt A f t < wgt A f (tP A f l (P ^^^ 2 ^ i)) then tP A f l (P ^^^ 2 ^ i) else t) else t) i 0
theorem fwN_s (A : AS) (f l P i : Nat) : fwN A f l P (i + 1) = if P.testBit i then (if wgt A f (fwN A f l P i) < wgt A f (tP A f l (P ^^^ 2 ^ i)) then tP A f l (P ^^^ 2 ^ i) else fwN A f l P i) else fwN A f l P i := rfl
theorem xor_bit {P i : Nat} (h : P.testBit i = true) (j : Nat) : (P ^^^ 2 ^ i).testBit j = (P.testBit j && j != i) := by
  rw [Nat.testBit_xor, Nat.testBit_two_pow]
  by_cases e : i = j
  · subst e; simp [h]
  · have e' : ¬ j = i := fun q => e q.symm
    simp [e, e']
theorem xor_sub {P i : Nat} (h : P.testBit i = true) : SubB (P ^^^ 2 ^ i) P := fun j hj => by
  rw [xor_bit h] at hj
  simp only [Bool.and_eq_true] at hj
  exact hj.1
theorem xor_lt {P i : Nat} (h : P.testBit i = true) : P ^^^ 2 ^ i < P := by
  have h1 := sub_le (SubB_and.mpr (xor_sub h))
  have h2 : P ^^^ 2 ^ i ≠ P := fun e => by
    have := xor_bit h i
    rw [e, h] at this
    simp at this
  omega
theorem SubB_tr {a b c : Nat} (h : SubB a b) (g : SubB b c) : SubB a c := fun i q => g i (h i q)
theorem fwN_inv {A : AS} (w : WF A) {f l P : Nat} (hP : P < 2 ^ nOf A f) : ∀ i, i ≤ nOf A f → SubB (fwN A f l P i) P ∧ kOk A f l (fwN A f l P i) = true ∧ ∀ j, j < i → P.testBit j = true → wgt A f (tP A f l (P ^^^ 2 ^ j)) ≤ wgt A f (fwN A f l P i) := by
  intro i
  induction i with
  | zero => intro _; exact ⟨fun j hj => by simp [fwN, nfo] at hj, kOk_0 A f l, fun j hj => by omega⟩
  | succ i ih =>
    intro hi
    obtain ⟨i1, i2, i3⟩ := ih (by omega)
    rw [fwN_s]
    by_cases q : P.testBit i = true
    · rw [if_pos q]
      have hx := xor_sub q
      obtain ⟨t1, t2, t3, t4, -⟩ := tP_spec w (f := f) (l := l) (P := P ^^^ 2 ^ i) (SubB_lt hx hP)
      by_cases q2 : wgt A f (fwN A f l P i) < wgt A f (tP A f l (P ^^^ 2 ^ i))
      · rw [if_pos q2]
        refine ⟨SubB_tr t2 hx, t3, fun j hj hb => ?_⟩
        by_cases e : j = i
        · rw [e]; exact Nat.le_refl _
        · have := i3 j (by omega) hb; omega
      · rw [if_neg q2]
        refine ⟨i1, i2, fun j hj hb => ?_⟩
        by_cases e : j = i
        · rw [e]; omega
        · exact i3 j (by omega) hb
    · rw [if_neg q]
      refine ⟨i1, i2, fun j hj hb => ?_⟩
      by_cases e : j = i
      · rw [e] at hb; exact absurd hb q
      · exact i3 j (by omega) hb
theorem fwN_ok {A : AS} (w : WF A) {f l P : Nat} (hP : P < 2 ^ nOf A f) (hn : kOk A f l P = false) : fwN A f l P (nOf A f) = tP A f l P := by
  obtain ⟨i1, i2, i3⟩ := fwN_inv w (l := l) hP (nOf A f) (Nat.le_refl _)
  refine (tP_uniq w hP i1 i2 fun Q hQ hk => ?_).symm
  have hne : Q ≠ P := fun e => by rw [e, hn] at hk; cases hk
  have hex : ∃ j, P.testBit j = true ∧ Q.testBit j = false := by
    apply Classical.byContradiction
    intro hno
    apply hne
    apply Nat.eq_of_testBit_eq
    intro j
    cases qp : P.testBit j with
    | false =>
      cases qq : Q.testBit j with
      | false => rfl
      | true => rw [hQ j qq] at qp; cases qp
    | true =>
      cases qq : Q.testBit j with
      | true => rfl
      | false => exact absurd ⟨j, qp, qq⟩ hno
  obtain ⟨j, j1, j2⟩ := hex
  have hjn := bits_lt hP j1
  have hx := xor_sub j1
  have hQx : SubB Q (P ^^^ 2 ^ j) := fun i hi => by
    rw [xor_bit j1, hQ i hi]
    have : i ≠ j := fun e => by rw [e, j2] at hi; cases hi
    simp [this]
  have := (tP_spec w (f := f) (l := l) (P := P ^^^ 2 ^ j) (SubB_lt hx hP)).2.2.2.1 Q hQx hk
  exact Nat.le_trans this (i3 j hjn j1)
/-- GROWS -/
def tG (A : AS) (f l P : Nat) : Bool := (fst1 (fun Q => P &&& Q == P && kOk A f l Q) (2 ^ nOf A f)).isSome
theorem fst1_isSome {p : Nat → Bool} {n : Nat} : (fst1 p n).isSome = true ↔ ∃ m, m < n ∧ p m = true := by
  constructor
  · intro h
    cases hf : fst1 p n with
    | none => rw [hf] at h; cases h
    | some m => obtain ⟨h1, h2, -⟩ := fst1_some hf; exact ⟨m, h1, h2⟩
  · rintro ⟨m, h1, h2⟩
    cases hf : fst1 p n with
    | none => have := fst1_none hf m h1; rw [h2] at this; cases this
    | some m => rfl
theorem tG_iff {A : AS} {f l P : Nat} : tG A f l P = true ↔ ∃ Q, Q < 2 ^ nOf A f ∧ SubB P Q ∧ kOk A f l Q = true := by
  unfold tG
  rw [fst1_isSome]
  constructor
  · rintro ⟨Q, h1, h2⟩
    simp only [Bool.and_eq_true, beq_iff_eq] at h2
    exact ⟨Q, h1, SubB_and.mp h2.1, h2.2⟩
  · rintro ⟨Q, h1, h2, h3⟩
    refine ⟨Q, h1, ?_⟩
    simp only [Bool.and_eq_true, beq_iff_eq]
    exact ⟨SubB_and.mpr h2, h3⟩
theorem or_bit_sub {P Q i : Nat} : SubB (P ||| 2 ^ i) Q ↔ SubB P Q ∧ Q.testBit i = true := by
  constructor
  · intro h
    exact ⟨fun j hj => h j (by rw [Nat.testBit_or, hj]; rfl), h i (by rw [Nat.testBit_or, Nat.testBit_two_pow]; simp)⟩
  · rintro ⟨h1, h2⟩ j hj
    rw [Nat.testBit_or, Nat.testBit_two_pow, Bool.or_eq_true, decide_eq_true_iff] at hj
    rcases hj with q | q
    · exact h1 j q
    · rw [← q]; exact h2
theorem tG_rec {A : AS} {f l P : Nat} (hP : P < 2 ^ nOf A f) : tG A f l P = true ↔ kOk A f l P = true ∨ ∃ i, i < nOf A f ∧ P.testBit i = false ∧ tG A f l (P ||| 2 ^ i) = true := by
  constructor
  · intro h
    obtain ⟨Q, h1, h2, h3⟩ := tG_iff.mp h
    by_cases e : Q = P
    · rw [e] at h3; exact Or.inl h3
    · right
      have hex : ∃ j, Q.testBit j = true ∧ P.testBit j = false := by
        apply Classical.byContradiction
        intro hno
        apply e
        apply Nat.eq_of_testBit_eq
        intro j
        cases qp : P.testBit j with
        | true => exact h2 j qp
        | false =>
          cases qq : Q.testBit j with
          | false => rfl
          | true => exact absurd ⟨j, qq, qp⟩ hno
      obtain ⟨j, j1, j2⟩ := hex
      exact ⟨j, bits_lt h1 j1, j2, tG_iff.mpr ⟨Q, h1, or_bit_sub.mpr ⟨h2, j1⟩, h3⟩⟩
  · rintro (h | ⟨i, i1, i2, i3⟩)
    · exact tG_iff.mpr ⟨P, hP, fun _ q => q, h⟩
    · obtain ⟨Q, h1, h2, h3⟩ := tG_iff.mp i3
      exact tG_iff.mpr ⟨Q, h1, (or_bit_sub.mp h2).1, h3⟩
theorem or_bit_lt {P i n : Nat} (hP : P < 2 ^ n) (hi : i < n) : P ||| 2 ^ i < 2 ^ n := Nat.or_lt_two_pow hP (Nat.pow_lt_pow_right (by decide) hi)
theorem or_bit_gt {P i : Nat} (h : P.testBit i = false) : P < P ||| 2 ^ i := by
  have h1 := sub_le (b := P) (s := P ||| 2 ^ i) (SubB_and.mpr fun j hj => by rw [Nat.testBit_or, hj]; rfl)
  have h2 : P ||| 2 ^ i ≠ P := fun e => by
    have : (P ||| 2 ^ i).testBit i = true := by rw [Nat.testBit_or, Nat.testBit_two_pow]; simp
    rw [e, h] at this; cases this
  omega
