def TwL (l : List Nat) : Prop := ∀ m ∈ l, ∃ a b, a < 7 ∧ b < 7 ∧ a ≠ b ∧ m = 2 ^ a ||| 2 ^ b
theorem tw2_bit (a b p : Nat) : (2 ^ a ||| 2 ^ b).testBit p = (decide (a = p) || decide (b = p)) := by rw [Nat.testBit_or, Nat.testBit_two_pow, Nat.testBit_two_pow]
theorem twM_g (p q : Nat) : ∀ (l : List Nat) (m0 : Nat), (l.foldl (fun m x => if x.testBit p then m ||| (x ^^^ 2 ^ p) else m) m0).testBit q = true ↔ m0.testBit q = true ∨ ∃ x ∈ l, x.testBit p = true ∧ (x ^^^ 2 ^ p).testBit q = true := by
  intro l
  induction l with
  | nil => intro m0; simp
  | cons y l ih =>
    intro m0
    rw [List.foldl_cons, ih]
    by_cases hy : y.testBit p = true
    · rw [if_pos hy, Nat.testBit_or, Bool.or_eq_true]
      constructor
      · rintro ((h | h) | ⟨x, h1, h2⟩)
        · exact Or.inl h
        · exact Or.inr ⟨y, by simp, hy, h⟩
        · exact Or.inr ⟨x, by simp [h1], h2⟩
      · rintro (h | ⟨x, h1, h2, h3⟩)
        · exact Or.inl (Or.inl h)
        · rcases List.mem_cons.mp h1 with e | e
          · subst e; exact Or.inl (Or.inr h3)
          · exact Or.inr ⟨x, e, h2, h3⟩
    · rw [if_neg hy]
      constructor
      · rintro (h | ⟨x, h1, h2⟩)
        · exact Or.inl h
        · exact Or.inr ⟨x, by simp [h1], h2⟩
      · rintro (h | ⟨x, h1, h2, h3⟩)
        · exact Or.inl h
        · rcases List.mem_cons.mp h1 with e | e
          · subst e; exact absurd h2 hy
          · exact Or.inr ⟨x, e, h2, h3⟩
theorem twM_bit {l : List Nat} (hl : TwL l) (p q : Nat) : (twM l p).testBit q = true ↔ p ≠ q ∧ ∃ m ∈ l, m.testBit p = true ∧ m.testBit q = true := by
  unfold twM
  rw [twM_g, Nat.zero_testBit]
  constructor
  · rintro (h | ⟨x, h1, h2, h3⟩)
    · cases h
    · obtain ⟨a, b, ha, hb, hab, rfl⟩ := hl x h1
      rw [Nat.testBit_xor, Nat.testBit_two_pow, tw2_bit] at h3
      by_cases e : p = q
      · subst e
        rw [tw2_bit] at h2
        rw [h2] at h3
        simp at h3
      · refine ⟨e, _, h1, h2, ?_⟩
        rw [tw2_bit]
        simpa [e] using h3
  · rintro ⟨e, x, h1, h2, h3⟩
    right
    refine ⟨x, h1, h2, ?_⟩
    rw [Nat.testBit_xor, Nat.testBit_two_pow, h3]
    simp [e]
theorem twM_lt {l : List Nat} (hl : TwL l) (p : Nat) : twM l p < 2 ^ 7 := by
  apply Nat.lt_pow_two_of_testBit
  intro q hq
  cases h : (twM l p).testBit q with
  | false => rfl
  | true =>
    obtain ⟨-, m, h1, -, h3⟩ := (twM_bit hl p q).mp h
    obtain ⟨a, b, ha, hb, -, rfl⟩ := hl m h1
    rw [tw2_bit] at h3
    simp only [Bool.or_eq_true, decide_eq_true_eq] at h3
    omega
theorem ne0_bit {x : Nat} : x ≠ 0 ↔ ∃ i, x.testBit i = true := by
  constructor
  · intro h
    refine Classical.byContradiction fun q => h (Nat.eq_of_testBit_eq fun i => ?_)
    rw [Nat.zero_testBit]
    cases hx : x.testBit i with
    | false => rfl
    | true => exact absurd ⟨i, hx⟩ q
  · rintro ⟨i, hi⟩ rfl
    rw [Nat.zero_testBit] at hi; cases hi
def kApt (l : List Nat) (who : Nat) : Bool := (fst1 (fun p => who.testBit p && (twM l p &&& who) != 0) 7).isNone
theorem two_sub {a b who : Nat} : (who &&& (2 ^ a ||| 2 ^ b) == 2 ^ a ||| 2 ^ b) = (who.testBit a && who.testBit b) := by
  have h : (who &&& (2 ^ a ||| 2 ^ b) = 2 ^ a ||| 2 ^ b) ↔ (who.testBit a = true ∧ who.testBit b = true) := by
    rw [Nat.and_comm, SubB_and]
    constructor
    · intro h
      exact ⟨h a (by rw [tw2_bit]; simp), h b (by rw [tw2_bit]; simp)⟩
    · rintro ⟨h1, h2⟩ i hi
      rw [tw2_bit] at hi
      simp only [Bool.or_eq_true, decide_eq_true_eq] at hi
      rcases hi with rfl | rfl
      · exact h1
      · exact h2
  cases h1 : (who &&& (2 ^ a ||| 2 ^ b) == 2 ^ a ||| 2 ^ b) with
  | true =>
    have := h.mp (by simpa using h1)
    rw [this.1, this.2]; rfl
  | false =>
    have h2 : ¬ (who &&& (2 ^ a ||| 2 ^ b) = 2 ^ a ||| 2 ^ b) := by simpa using h1
    rw [h] at h2
    cases q1 : who.testBit a <;> cases q2 : who.testBit b <;> simp [q1, q2] at h2 ⊢
theorem kApt_ok {l : List Nat} (hl : TwL l) (who : Nat) : kApt l who = !(l.any (fun m => who &&& m == m)) := by
  unfold kApt
  have key : (∃ p, p < 7 ∧ (who.testBit p && (twM l p &&& who) != 0) = true) ↔ l.any (fun m => who &&& m == m) = true := by
    rw [List.any_eq_true]
    constructor
    · rintro ⟨p, hp, h⟩
      simp only [Bool.and_eq_true, bne_iff_ne, ne_eq] at h
      obtain ⟨q, hq⟩ := ne0_bit.mp h.2
      rw [Nat.testBit_and, Bool.and_eq_true] at hq
      obtain ⟨hne, m, h1, h2, h3⟩ := (twM_bit hl p q).mp hq.1
      refine ⟨m, h1, ?_⟩
      obtain ⟨a, b, ha, hb, hab, rfl⟩ := hl m h1
      rw [two_sub]
      rw [tw2_bit] at h2 h3
      simp only [Bool.or_eq_true, decide_eq_true_eq] at h2 h3
      rcases h2 with rfl | rfl <;> rcases h3 with rfl | rfl
      · exact absurd rfl hne
      · rw [h.1, hq.2]; rfl
      · rw [h.1, hq.2]; rfl
      · exact absurd rfl hne
    · rintro ⟨m, h1, h2⟩
      obtain ⟨a, b, ha, hb, hab, rfl⟩ := hl m h1
      rw [two_sub, Bool.and_eq_true] at h2
      refine ⟨a, ha, ?_⟩
      rw [h2.1, Bool.true_and]
      simp only [bne_iff_ne, ne_eq]
      refine ne0_bit.mpr ⟨b, ?_⟩
      rw [Nat.testBit_and, h2.2, Bool.and_true]
      exact (twM_bit hl a b).mpr ⟨hab, _, h1, by rw [tw2_bit]; simp, by rw [tw2_bit]; simp⟩
  cases hf : fst1 (fun p => who.testBit p && (twM l p &&& who) != 0) 7 with
  | none =>
    cases ha : l.any (fun m => who &&& m == m) with
    | false => rfl
    | true =>
      obtain ⟨p, hp, h⟩ := key.mpr ha
      have := fst1_none hf p hp
      rw [h] at this; cases this
  | some p =>
    obtain ⟨h1, h2, -⟩ := fst1_some hf
    rw [key.mp ⟨p, h1, h2⟩]; rfl
def kTog (l : List Nat) (who : Nat) : Bool := (fst1 (fun p => who.testBit p && (twM l p &&& (who ^^^ 4294967295)) != 0) 7).isNone
theorem xor_all {who i : Nat} (hi : i < 32) : (who ^^^ 4294967295).testBit i = !who.testBit i := by
  rw [Nat.testBit_xor, show (4294967295 : Nat) = 2 ^ 32 - 1 by decide, Nat.testBit_two_pow_sub_one]
  simp [hi]
theorem kTog_ok {l : List Nat} (hl : TwL l) (who : Nat) : kTog l who = !(l.any (fun m => who &&& m != 0 && who &&& m != m)) := by
  unfold kTog
  have key : (∃ p, p < 7 ∧ (who.testBit p && (twM l p &&& (who ^^^ 4294967295)) != 0) = true) ↔ l.any (fun m => who &&& m != 0 && who &&& m != m) = true := by
    rw [List.any_eq_true]
    constructor
    · rintro ⟨p, hp, h⟩
      simp only [Bool.and_eq_true, bne_iff_ne, ne_eq] at h
      obtain ⟨q, hq⟩ := ne0_bit.mp h.2
      rw [Nat.testBit_and, Bool.and_eq_true] at hq
      obtain ⟨hne, m, h1, h2, h3⟩ := (twM_bit hl p q).mp hq.1
      refine ⟨m, h1, ?_⟩
      obtain ⟨a, b, ha, hb, hab, rfl⟩ := hl m h1
      have hq7 : q < 7 := by
        rw [tw2_bit] at h3
        simp only [Bool.or_eq_true, decide_eq_true_eq] at h3
        omega
      have hwq : who.testBit q = false := by
        have := hq.2
        rw [xor_all (by omega)] at this
        simpa using this
      simp only [Bool.and_eq_true, bne_iff_ne, ne_eq]
      refine ⟨ne0_bit.mpr ⟨p, by rw [Nat.testBit_and, h.1, h2]; rfl⟩, fun e => ?_⟩
      have : (who &&& (2 ^ a ||| 2 ^ b)).testBit q = true := by rw [e]; exact h3
      rw [Nat.testBit_and, hwq] at this
      cases this
    · rintro ⟨m, h1, h2⟩
      obtain ⟨a, b, ha, hb, hab, rfl⟩ := hl m h1
      simp only [Bool.and_eq_true, bne_iff_ne, ne_eq] at h2
      obtain ⟨i, hi⟩ := ne0_bit.mp h2.1
      rw [Nat.testBit_and, Bool.and_eq_true] at hi
      have h3 : ¬ (who.testBit a = true ∧ who.testBit b = true) := fun q => h2.2 (by
        have := two_sub (a := a) (b := b) (who := who)
        rw [q.1, q.2] at this
        simpa using this)
      have mk : ∀ p q, p < 7 → q < 7 → p ≠ q → (2 ^ a ||| 2 ^ b).testBit p = true → (2 ^ a ||| 2 ^ b).testBit q = true → who.testBit p = true → who.testBit q = false → ∃ p, p < 7 ∧ (who.testBit p && (twM l p &&& (who ^^^ 4294967295)) != 0) = true := by
        intro p q hp hq hpq t1 t2 w1 w2
        refine ⟨p, hp, ?_⟩
        rw [w1, Bool.true_and]
        simp only [bne_iff_ne, ne_eq]
        refine ne0_bit.mpr ⟨q, ?_⟩
        rw [Nat.testBit_and, xor_all (by omega), w2]
        simp only [Bool.not_false, Bool.and_true]
        exact (twM_bit hl p q).mpr ⟨hpq, _, h1, t1, t2⟩
      have ta : (2 ^ a ||| 2 ^ b).testBit a = true := by rw [tw2_bit]; simp
      have tb : (2 ^ a ||| 2 ^ b).testBit b = true := by rw [tw2_bit]; simp
      have hi' := hi.2
      rw [tw2_bit] at hi'
      simp only [Bool.or_eq_true, decide_eq_true_eq] at hi'
      rcases hi' with rfl | rfl
      · have w2 : who.testBit b = false := by
          cases q : who.testBit b with
          | false => rfl
          | true => exact absurd ⟨hi.1, q⟩ h3
        exact mk a b ha hb hab ta tb hi.1 w2
      · have w2 : who.testBit a = false := by
          cases q : who.testBit a with
          | false => rfl
          | true => exact absurd ⟨q, hi.1⟩ h3
        exact mk b a hb ha (Ne.symm hab) tb ta hi.1 w2
  cases hf : fst1 (fun p => who.testBit p && (twM l p &&& (who ^^^ 4294967295)) != 0) 7 with
  | none =>
    cases ha : l.any (fun m => who &&& m != 0 && who &&& m != m) with
    | false => rfl
    | true =>
      obtain ⟨p, hp, h⟩ := key.mpr ha
      have := fst1_none hf p hp
      rw [h] at this; cases this
  | some p =>
    obtain ⟨h1, h2, -⟩ := fst1_some hf
    rw [key.mp ⟨p, h1, h2⟩]; rfl
