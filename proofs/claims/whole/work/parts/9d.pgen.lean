/-! pure facts: how many bits; MATCHINGS; all that is gone through -/
theorem popN_bit : ∀ n k m, k < n → popN n (m ||| 2 ^ k) = popN n m + if m.testBit k then 0 else 1 := by
  intro n
  induction n with
  | zero => intro k m h; omega
  | succ n ih =>
    intro k m h
    simp only [popN]
    cases k with
    | zero =>
      have h1 : (m ||| 2 ^ 0) / 2 = m / 2 := by rw [Nat.or_div_two]; simp
      have h2 : (m ||| 2 ^ 0) % 2 = 1 := by
        have := Nat.or_mod_two_pow (a := m) (b := 2 ^ 0) (n := 1)
        simp only [Nat.pow_one] at this
        rw [this]
        have : m % 2 = 0 ∨ m % 2 = 1 := by omega
        rcases this with z | z <;> simp [z]
      rw [h1, h2, Nat.testBit_zero]
      have : m % 2 = 0 ∨ m % 2 = 1 := by omega
      rcases this with z | z <;> simp [z] <;> omega
    | succ k =>
      have h1 : (m ||| 2 ^ (k + 1)) / 2 = m / 2 ||| 2 ^ k := by
        rw [Nat.or_div_two]
        congr 1
        rw [Nat.pow_succ]; omega
      have h2 : (m ||| 2 ^ (k + 1)) % 2 = m % 2 := by
        have := Nat.or_mod_two_pow (a := m) (b := 2 ^ (k + 1)) (n := 1)
        simp only [Nat.pow_one] at this
        rw [this]
        have : 2 ^ (k + 1) % 2 = 0 := by rw [Nat.pow_succ]; omega
        rw [this]; simp
      rw [h1, h2, ih k (m / 2) (by omega), Nat.testBit_succ]
      omega
theorem popN_0 : ∀ n, popN n 0 = 0 := by
  intro n
  induction n with
  | zero => rfl
  | succ n ih => simp only [popN]; simpa using ih
/-- the bits of S below n -/
def loN (S n : Nat) : Nat := nfo (fun b m => if S.testBit b then m ||| 2 ^ b else m) n 0
theorem loN_lt (S : Nat) : ∀ n, loN S n < 2 ^ n := by
  intro n
  induction n with
  | zero => simp [loN, nfo]
  | succ n ih =>
    have h : loN S (n + 1) = if S.testBit n then loN S n ||| 2 ^ n else loN S n := rfl
    have h2 : loN S n < 2 ^ (n + 1) := Nat.lt_of_lt_of_le ih (Nat.pow_le_pow_right (by decide) (by omega))
    rw [h]
    split
    · exact Nat.or_lt_two_pow h2 (Nat.pow_lt_pow_right (by decide) (by omega))
    · exact h2
theorem loN_bit (S : Nat) : ∀ n b, (loN S n).testBit b = (decide (b < n) && S.testBit b) := by
  intro n
  induction n with
  | zero => intro b; simp [loN, nfo]
  | succ n ih =>
    intro b
    have h : loN S (n + 1) = if S.testBit n then loN S n ||| 2 ^ n else loN S n := rfl
    rw [h]
    by_cases hs : S.testBit n = true
    · rw [if_pos hs, Nat.testBit_or, ih, Nat.testBit_two_pow]
      by_cases e : n = b
      · subst e; simp [hs]
      · have e1 : decide (n = b) = false := by simpa using e
        have e2 : decide (b < n + 1) = decide (b < n) := by
          by_cases q : b < n
          · simp [q, show b < n + 1 by omega]
          · simp [q, show ¬ b < n + 1 by omega]
        rw [e1, e2, Bool.or_false]
    · rw [if_neg hs, ih]
      by_cases e : n = b
      · subst e
        have : S.testBit n = false := by simpa using hs
        simp [this]
      · have e2 : decide (b < n + 1) = decide (b < n) := by
          by_cases q : b < n
          · simp [q, show b < n + 1 by omega]
          · simp [q, show ¬ b < n + 1 by omega]
        rw [e2]
theorem loN_eq {S n : Nat} (h : S < 2 ^ n) : loN S n = S := by
  apply Nat.eq_of_testBit_eq
  intro b
  rw [loN_bit]
  by_cases q : b < n
  · simp [q]
  · rw [tb_false h (by omega)]; simp
theorem popN_lo (S : Nat) : ∀ n, n ≤ 32 → popN 32 (loN S n) = cntN (fun b => S.testBit b) n := by
  intro n
  induction n with
  | zero => intro _; simp [loN, nfo, cntN, popN_0]
  | succ n ih =>
    intro h
    have h1 : loN S (n + 1) = if S.testBit n then loN S n ||| 2 ^ n else loN S n := rfl
    have h2 : cntN (fun b => S.testBit b) (n + 1) = if S.testBit n then cntN (fun b => S.testBit b) n + 1 else cntN (fun b => S.testBit b) n := rfl
    rw [h1, h2]
    split
    · rw [popN_bit 32 n _ (by omega), ih (by omega), loN_bit]; simp
    · exact ih (by omega)
theorem popN_cnt {S n : Nat} (h : S < 2 ^ n) (hn : n ≤ 32) : popN 32 S = cntN (fun b => S.testBit b) n := by
  rw [← popN_lo S n hn, loN_eq h]
/-- at most one BOND of each PERSON -/
def sMat (A : AS) (S : Nat) : Prop := ∀ b c, b < aNb A → c < aNb A → S.testBit b = true → S.testBit c = true → aPe A b = aPe A c → b = c
theorem ppl_bit (A : AS) (S : Nat) : ∀ n q, (pplOf (aPe A) S n).testBit q = true ↔ ∃ b, b < n ∧ S.testBit b = true ∧ aPe A b = q := by
  intro n
  induction n with
  | zero => intro q; simp [pplOf, nfo]
  | succ n ih =>
    intro q
    have h : pplOf (aPe A) S (n + 1) = if S.testBit n then pplOf (aPe A) S n ||| 2 ^ (aPe A n) else pplOf (aPe A) S n := rfl
    rw [h]
    by_cases hs : S.testBit n = true
    · rw [if_pos hs, Nat.testBit_or, Nat.testBit_two_pow, Bool.or_eq_true, ih]
      constructor
      · rintro (⟨b, h1, h2, h3⟩ | h1)
        · exact ⟨b, by omega, h2, h3⟩
        · exact ⟨n, by omega, hs, by simpa using h1⟩
      · rintro ⟨b, h1, h2, h3⟩
        by_cases e : b = n
        · subst e; right; simpa using h3
        · exact Or.inl ⟨b, by omega, h2, h3⟩
    · rw [if_neg hs, ih]
      constructor
      · rintro ⟨b, h1, h2, h3⟩; exact ⟨b, by omega, h2, h3⟩
      · rintro ⟨b, h1, h2, h3⟩
        by_cases e : b = n
        · subst e; exact absurd h2 hs
        · exact ⟨b, by omega, h2, h3⟩
theorem ppl_pop {A : AS} (w : WF A) (S : Nat) : ∀ n, n ≤ aNb A → popN 32 (pplOf (aPe A) S n) ≤ cntN (fun b => S.testBit b) n ∧ (popN 32 (pplOf (aPe A) S n) = cntN (fun b => S.testBit b) n ↔ ∀ b c, b < n → c < n → S.testBit b = true → S.testBit c = true → aPe A b = aPe A c → b = c) := by
  have hn7 := w.1.1
  intro n
  induction n with
  | zero => intro _; simp [pplOf, nfo, cntN, popN_0]
  | succ n ih =>
    intro hn
    obtain ⟨i1, i2⟩ := ih (by omega)
    have h1 : pplOf (aPe A) S (n + 1) = if S.testBit n then pplOf (aPe A) S n ||| 2 ^ (aPe A n) else pplOf (aPe A) S n := rfl
    have h2 : cntN (fun b => S.testBit b) (n + 1) = if S.testBit n then cntN (fun b => S.testBit b) n + 1 else cntN (fun b => S.testBit b) n := rfl
    have hp := (w.2.2.1.2.1 n (by omega)).1
    rw [h1, h2]
    by_cases hs : S.testBit n = true
    · rw [if_pos hs, if_pos hs, popN_bit 32 _ _ (by omega)]
      have hb := ppl_bit A S n (aPe A n)
      by_cases hq : (pplOf (aPe A) S n).testBit (aPe A n) = true
      · rw [if_pos hq]
        obtain ⟨b, b1, b2, b3⟩ := hb.mp hq
        refine ⟨by omega, ?_⟩
        constructor
        · intro h; omega
        · intro h
          have := h b n (by omega) (by omega) b2 hs b3
          omega
      · rw [if_neg hq]
        refine ⟨by omega, ?_⟩
        constructor
        · intro h b c hb' hc' t1 t2 e
          by_cases e1 : b = n
          · by_cases e2 : c = n
            · omega
            · exact absurd (hb.mpr ⟨c, by omega, t2, by rw [← e, e1]⟩) hq
          · by_cases e2 : c = n
            · exact absurd (hb.mpr ⟨b, by omega, t1, by rw [e, e2]⟩) hq
            · exact i2.mp (by omega) b c (by omega) (by omega) t1 t2 e
        · intro h
          have := i2.mpr fun b c x1 x2 => h b c (by omega) (by omega)
          omega
    · rw [if_neg hs, if_neg hs]
      refine ⟨i1, ?_⟩
      rw [i2]
      constructor
      · intro h b c hb' hc' t1 t2 e
        have e1 : b ≠ n := fun q => hs (q ▸ t1)
        have e2 : c ≠ n := fun q => hs (q ▸ t2)
        exact h b c (by omega) (by omega) t1 t2 e
      · intro h b c x1 x2
        exact h b c (by omega) (by omega)
theorem sMat_pop {A : AS} (w : WF A) {S : Nat} (hS : S < 2 ^ aNb A) : popN 32 (sPpl A S) = popN 32 S ↔ sMat A S := by
  have h20 := w.2.2.1.1
  rw [popN_cnt hS (by omega)]
  exact (ppl_pop w S (aNb A) (Nat.le_refl _)).2
-- what is gone through
def Low (A : AS) (p S : Nat) : Prop := S < 2 ^ aNb A ∧ ∀ b, b < aNb A → p ≤ aPe A b → S.testBit b = false
def Ext (A : AS) (p S T : Nat) : Prop := T < 2 ^ aNb A ∧ (∀ b, b < aNb A → aPe A b < p → T.testBit b = S.testBit b) ∧ (∀ b, b < aNb A → p ≤ aPe A b → T.testBit b = true → sElg A (aPe A b) b = true) ∧ (∀ b c, b < aNb A → c < aNb A → p ≤ aPe A b → T.testBit b = true → T.testBit c = true → aPe A b = aPe A c → b = c)
theorem genB_mem {A : AS} {n p S T : Nat} : ∀ i, T ∈ genB A n p S i ↔ T ∈ genL A n (p + 1) S ∨ ∃ b, b < i ∧ sElg A p b = true ∧ T ∈ genL A n (p + 1) (S ||| 2 ^ b) := by
  intro i
  induction i with
  | zero => simp [genB, nfo]
  | succ i ih =>
    rw [genB_s, List.mem_append, ih]
    constructor
    · rintro ((h | ⟨b, h1, h2, h3⟩) | h)
      · exact Or.inl h
      · exact Or.inr ⟨b, by omega, h2, h3⟩
      · split at h
        · rename_i q; exact Or.inr ⟨i, by omega, q, h⟩
        · cases h
    · rintro (h | ⟨b, h1, h2, h3⟩)
      · exact Or.inl (Or.inl h)
      · by_cases e : b = i
        · subst e; right; rw [if_pos h2]; exact h3
        · exact Or.inl (Or.inr ⟨b, by omega, h2, h3⟩)
theorem Low_or {A : AS} {p S b : Nat} (h : Low A p S) (hb : b < aNb A) (hp : aPe A b = p) : Low A (p + 1) (S ||| 2 ^ b) := by
  refine ⟨Nat.or_lt_two_pow h.1 (Nat.pow_lt_pow_right (by decide) hb), fun c hc hpc => ?_⟩
  rw [Nat.testBit_or, h.2 c hc (by omega), Nat.testBit_two_pow]
  have : ¬ b = c := fun e => by subst e; omega
  simpa using this
theorem Low_s {A : AS} {p S : Nat} (h : Low A p S) : Low A (p + 1) S := ⟨h.1, fun b hb hp => h.2 b hb (by omega)⟩
theorem genL_mem {A : AS} (w : WF A) : ∀ n p S T, p + n = aNp A → Low A p S → (T ∈ genL A n p S ↔ Ext A p S T) := by
  intro n
  induction n with
  | zero =>
    intro p S T hp hl
    simp only [genL, List.mem_singleton]
    constructor
    · rintro rfl
      refine ⟨hl.1, fun b _ _ => rfl, fun b hb h1 => ?_, fun b c hb _ h1 => ?_⟩
      · have := (w.2.2.1.2.1 b hb).1; omega
      · have := (w.2.2.1.2.1 b hb).1; omega
    · intro h
      apply Nat.eq_of_testBit_eq
      intro b
      by_cases q : b < aNb A
      · exact h.2.1 b q (by have := (w.2.2.1.2.1 b q).1; omega)
      · rw [tb_false h.1 (by omega), tb_false hl.1 (by omega)]
  | succ n ih =>
    intro p S T hp hl
    have hgen : genL A (n + 1) p S = genB A n p S (aNb A) := rfl
    rw [hgen, genB_mem, ih (p + 1) S T (by omega) (Low_s hl)]
    constructor
    · rintro (h | ⟨b, h1, h2, h3⟩)
      · refine ⟨h.1, fun c hc hpc => h.2.1 c hc (by omega), fun c hc hpc ht => ?_, fun b c hb hc hpb t1 t2 e => ?_⟩
        · by_cases e : aPe A c = p
          · have := h.2.1 c hc (by omega)
            rw [hl.2 c hc hpc, ht] at this
            cases this
          · exact h.2.2.1 c hc (by omega) ht
        · by_cases e' : aPe A b = p
          · have := h.2.1 b hb (by omega)
            rw [hl.2 b hb hpb, t1] at this
            cases this
          · exact h.2.2.2 b c hb hc (by omega) t1 t2 e
      · have hpb : aPe A b = p := by
          unfold sElg at h2
          simp only [Bool.and_eq_true, beq_iff_eq] at h2
          exact h2.1
        have hx := (ih (p + 1) (S ||| 2 ^ b) T (by omega) (Low_or hl h1 hpb)).mp h3
        have hbit : ∀ c, c < aNb A → aPe A c < p + 1 → T.testBit c = (S.testBit c || decide (b = c)) := fun c hc hpc => by
          rw [hx.2.1 c hc hpc, Nat.testBit_or, Nat.testBit_two_pow]
        refine ⟨hx.1, fun c hc hpc => ?_, fun c hc hpc ht => ?_, fun c d hc hd hpc t1 t2 e => ?_⟩
        · rw [hbit c hc (by omega)]
          have : ¬ b = c := fun e => by subst e; omega
          simp [this]
        · by_cases e : aPe A c = p
          · have := hbit c hc (by omega)
            rw [hl.2 c hc hpc, ht, Bool.false_or] at this
            have hbc : b = c := by simpa using this.symm
            rw [← hbc, hpb]; exact h2
          · exact hx.2.2.1 c hc (by omega) ht
        · by_cases e' : aPe A c = p
          · have z1 := hbit c hc (by omega)
            have z2 := hbit d hd (by omega)
            rw [hl.2 c hc hpc, t1, Bool.false_or] at z1
            rw [hl.2 d hd (by omega), t2, Bool.false_or] at z2
            have b1 : b = c := by simpa using z1.symm
            have b2 : b = d := by simpa using z2.symm
            omega
          · exact hx.2.2.2 c d hc hd (by omega) t1 t2 e
    · intro h
      by_cases hex : ∃ b, b < aNb A ∧ aPe A b = p ∧ T.testBit b = true
      · obtain ⟨b, h1, h2, h3⟩ := hex
        right
        refine ⟨b, h1, ?_, (ih (p + 1) (S ||| 2 ^ b) T (by omega) (Low_or hl h1 h2)).mpr ⟨h.1, fun c hc hpc => ?_, fun c hc hpc ht => h.2.2.1 c hc (by omega) ht, fun c d hc hd hpc t1 t2 e => h.2.2.2 c d hc hd (by omega) t1 t2 e⟩⟩
        · have := h.2.2.1 b h1 (by omega) h3
          rw [h2] at this; exact this
        · rw [Nat.testBit_or, Nat.testBit_two_pow]
          by_cases e : aPe A c = p
          · rw [hl.2 c hc (by omega), Bool.false_or]
            by_cases e2 : b = c
            · subst e2; simp [h3]
            · have : T.testBit c = false := by
                cases ht : T.testBit c with
                | false => rfl
                | true => exact absurd (h.2.2.2 b c h1 hc (by omega) h3 ht (by omega)) e2
              simp [this, e2]
          · rw [h.2.1 c hc (by omega)]
            have : ¬ b = c := fun q => by subst q; omega
            simp [this]
      · left
        refine ⟨h.1, fun c hc hpc => ?_, fun c hc hpc ht => h.2.2.1 c hc (by omega) ht, fun c d hc hd hpc t1 t2 e => h.2.2.2 c d hc hd (by omega) t1 t2 e⟩
        by_cases e : aPe A c = p
        · rw [hl.2 c hc (by omega)]
          cases ht : T.testBit c with
          | false => rfl
          | true => exact absurd ⟨c, hc, e, ht⟩ hex
        · exact h.2.1 c hc (by omega)
